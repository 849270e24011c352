theorem dX14_readFrom_0 : decode cX14_readFrom 0 = .ok (.iload_n 1, 1) := by decide +kernel
theorem dX14_readFrom_1 : decode cX14_readFrom 1 = .ok (.bipush 6, 2) := by decide +kernel
theorem dX14_readFrom_3 : decode cX14_readFrom 3 = .ok (.if_icmp .ne 8, 3) := by decide +kernel
theorem dX14_readFrom_6 : decode cX14_readFrom 6 = .ok (.aload_n 0, 1) := by decide +kernel
theorem dX14_readFrom_7 : decode cX14_readFrom 7 = .ok (.invokevirtual 247, 3) := by decide +kernel
theorem dX14_readFrom_10 : decode cX14_readFrom 10 = .ok (.ireturn, 1) := by decide +kernel
theorem dX14_readFrom_11 : decode cX14_readFrom 11 = .ok (.aload_n 0, 1) := by decide +kernel
theorem dX14_readFrom_12 : decode cX14_readFrom 12 = .ok (.iload_n 1, 1) := by decide +kernel
theorem dX14_readFrom_13 : decode cX14_readFrom 13 = .ok (.iconst 1, 1) := by decide +kernel
theorem dX14_readFrom_14 : decode cX14_readFrom 14 = .ok (.iadd, 1) := by decide +kernel
theorem dX14_readFrom_15 : decode cX14_readFrom 15 = .ok (.invokevirtual 244, 3) := by decide +kernel
theorem dX14_readFrom_18 : decode cX14_readFrom 18 = .ok (.istore_n 2, 1) := by decide +kernel
theorem dX14_readFrom_19 : decode cX14_readFrom 19 = .ok (.aload_n 0, 1) := by decide +kernel
theorem dX14_readFrom_20 : decode cX14_readFrom 20 = .ok (.invokevirtual 250, 3) := by decide +kernel
theorem dX14_readFrom_23 : decode cX14_readFrom 23 = .ok (.iload_n 1, 1) := by decide +kernel
theorem dX14_readFrom_24 : decode cX14_readFrom 24 = .ok (.if_icmp .ne 113, 3) := by decide +kernel
theorem dX14_readFrom_27 : decode cX14_readFrom 27 = .ok (.aload_n 0, 1) := by decide +kernel
theorem dX14_readFrom_28 : decode cX14_readFrom 28 = .ok (.invokevirtual 253, 3) := by decide +kernel
theorem dX14_readFrom_31 : decode cX14_readFrom 31 = .ok (.aload_n 0, 1) := by decide +kernel
theorem dX14_readFrom_32 : decode cX14_readFrom 32 = .ok (.getfield 148, 3) := by decide +kernel
theorem dX14_readFrom_35 : decode cX14_readFrom 35 = .ok (.istore_n 3, 1) := by decide +kernel
theorem dX14_readFrom_36 : decode cX14_readFrom 36 = .ok (.aload_n 0, 1) := by decide +kernel
theorem dX14_readFrom_37 : decode cX14_readFrom 37 = .ok (.getfield 128, 3) := by decide +kernel
theorem dX14_readFrom_40 : decode cX14_readFrom 40 = .ok (.istore 4, 2) := by decide +kernel
theorem dX14_readFrom_42 : decode cX14_readFrom 42 = .ok (.aload_n 0, 1) := by decide +kernel
theorem dX14_readFrom_43 : decode cX14_readFrom 43 = .ok (.invokevirtual 185, 3) := by decide +kernel
theorem dX14_readFrom_46 : decode cX14_readFrom 46 = .ok (.aload_n 0, 1) := by decide +kernel
theorem dX14_readFrom_47 : decode cX14_readFrom 47 = .ok (.iload_n 1, 1) := by decide +kernel
theorem dX14_readFrom_48 : decode cX14_readFrom 48 = .ok (.iconst 1, 1) := by decide +kernel
theorem dX14_readFrom_49 : decode cX14_readFrom 49 = .ok (.iadd, 1) := by decide +kernel
theorem dX14_readFrom_50 : decode cX14_readFrom 50 = .ok (.invokevirtual 244, 3) := by decide +kernel
theorem dX14_readFrom_53 : decode cX14_readFrom 53 = .ok (.istore 5, 2) := by decide +kernel
theorem dX14_readFrom_55 : decode cX14_readFrom 55 = .ok (.iconst 1, 1) := by decide +kernel
theorem dX14_readFrom_56 : decode cX14_readFrom 56 = .ok (.aload_n 0, 1) := by decide +kernel
theorem dX14_readFrom_57 : decode cX14_readFrom 57 = .ok (.getfield 23, 3) := by decide +kernel
theorem dX14_readFrom_60 : decode cX14_readFrom 60 = .ok (.getfield 226, 3) := by decide +kernel
theorem dX14_readFrom_63 : decode cX14_readFrom 63 = .ok (.iload_n 2, 1) := by decide +kernel
theorem dX14_readFrom_64 : decode cX14_readFrom 64 = .ok (.iaload, 1) := by decide +kernel
theorem dX14_readFrom_65 : decode cX14_readFrom 65 = .ok (.aload_n 0, 1) := by decide +kernel
theorem dX14_readFrom_66 : decode cX14_readFrom 66 = .ok (.getfield 23, 3) := by decide +kernel
theorem dX14_readFrom_69 : decode cX14_readFrom 69 = .ok (.getfield 226, 3) := by decide +kernel
theorem dX14_readFrom_72 : decode cX14_readFrom 72 = .ok (.iload 5, 2) := by decide +kernel
theorem dX14_readFrom_74 : decode cX14_readFrom 74 = .ok (.iaload, 1) := by decide +kernel
theorem dX14_readFrom_75 : decode cX14_readFrom 75 = .ok (.if_icmp .le 15, 3) := by decide +kernel
theorem dX14_readFrom_78 : decode cX14_readFrom 78 = .ok (.aload_n 0, 1) := by decide +kernel
theorem dX14_readFrom_79 : decode cX14_readFrom 79 = .ok (.getfield 23, 3) := by decide +kernel
theorem dX14_readFrom_82 : decode cX14_readFrom 82 = .ok (.getfield 226, 3) := by decide +kernel
theorem dX14_readFrom_85 : decode cX14_readFrom 85 = .ok (.iload_n 2, 1) := by decide +kernel
theorem dX14_readFrom_86 : decode cX14_readFrom 86 = .ok (.iaload, 1) := by decide +kernel
theorem dX14_readFrom_87 : decode cX14_readFrom 87 = .ok (.goto 13, 3) := by decide +kernel
theorem dX14_readFrom_90 : decode cX14_readFrom 90 = .ok (.aload_n 0, 1) := by decide +kernel
theorem dX14_readFrom_91 : decode cX14_readFrom 91 = .ok (.getfield 23, 3) := by decide +kernel
theorem dX14_readFrom_94 : decode cX14_readFrom 94 = .ok (.getfield 226, 3) := by decide +kernel
theorem dX14_readFrom_97 : decode cX14_readFrom 97 = .ok (.iload 5, 2) := by decide +kernel
theorem dX14_readFrom_99 : decode cX14_readFrom 99 = .ok (.iaload, 1) := by decide +kernel
theorem dX14_readFrom_100 : decode cX14_readFrom 100 = .ok (.iadd, 1) := by decide +kernel
theorem dX14_readFrom_101 : decode cX14_readFrom 101 = .ok (.istore 6, 2) := by decide +kernel
theorem dX14_readFrom_103 : decode cX14_readFrom 103 = .ok (.aload_n 0, 1) := by decide +kernel
theorem dX14_readFrom_104 : decode cX14_readFrom 104 = .ok (.iload 6, 2) := by decide +kernel
theorem dX14_readFrom_106 : decode cX14_readFrom 106 = .ok (.bipush 12, 2) := by decide +kernel
theorem dX14_readFrom_108 : decode cX14_readFrom 108 = .ok (.if_icmp .gt 7, 3) := by decide +kernel
theorem dX14_readFrom_111 : decode cX14_readFrom 111 = .ok (.iconst 1, 1) := by decide +kernel
theorem dX14_readFrom_112 : decode cX14_readFrom 112 = .ok (.goto 4, 3) := by decide +kernel
theorem dX14_readFrom_115 : decode cX14_readFrom 115 = .ok (.iconst 0, 1) := by decide +kernel
theorem dX14_readFrom_116 : decode cX14_readFrom 116 = .ok (.bipush 7, 2) := by decide +kernel
theorem dX14_readFrom_118 : decode cX14_readFrom 118 = .ok (.iload 4, 2) := by decide +kernel
theorem dX14_readFrom_120 : decode cX14_readFrom 120 = .ok (.invokevirtual 172, 3) := by decide +kernel
theorem dX14_readFrom_123 : decode cX14_readFrom 123 = .ok (.aload_n 0, 1) := by decide +kernel
theorem dX14_readFrom_124 : decode cX14_readFrom 124 = .ok (.iload_n 3, 1) := by decide +kernel
theorem dX14_readFrom_125 : decode cX14_readFrom 125 = .ok (.iload_n 2, 1) := by decide +kernel
theorem dX14_readFrom_126 : decode cX14_readFrom 126 = .ok (.iload 5, 2) := by decide +kernel
theorem dX14_readFrom_128 : decode cX14_readFrom 128 = .ok (.iload 6, 2) := by decide +kernel
theorem dX14_readFrom_130 : decode cX14_readFrom 130 = .ok (.invokevirtual 256, 3) := by decide +kernel
theorem dX14_readFrom_133 : decode cX14_readFrom 133 = .ok (.istore_n 2, 1) := by decide +kernel
theorem dX14_readFrom_134 : decode cX14_readFrom 134 = .ok (.goto (-115), 3) := by decide +kernel
theorem dX14_readFrom_137 : decode cX14_readFrom 137 = .ok (.iload_n 2, 1) := by decide +kernel
theorem dX14_readFrom_138 : decode cX14_readFrom 138 = .ok (.ireturn, 1) := by decide +kernel
theorem dX14_readUnary_0 : decode cX14_readUnary 0 = .ok (.aload_n 0, 1) := by decide +kernel
theorem dX14_readUnary_1 : decode cX14_readUnary 1 = .ok (.bipush 45, 2) := by decide +kernel
theorem dX14_readUnary_3 : decode cX14_readUnary 3 = .ok (.invokevirtual 182, 3) := by decide +kernel
theorem dX14_readUnary_6 : decode cX14_readUnary 6 = .ok (.ifCond .ne 17, 3) := by decide +kernel
theorem dX14_readUnary_9 : decode cX14_readUnary 9 = .ok (.aload_n 0, 1) := by decide +kernel
theorem dX14_readUnary_10 : decode cX14_readUnary 10 = .ok (.bipush 33, 2) := by decide +kernel
theorem dX14_readUnary_12 : decode cX14_readUnary 12 = .ok (.invokevirtual 182, 3) := by decide +kernel
theorem dX14_readUnary_15 : decode cX14_readUnary 15 = .ok (.ifCond .ne 8, 3) := by decide +kernel
theorem dX14_readUnary_18 : decode cX14_readUnary 18 = .ok (.aload_n 0, 1) := by decide +kernel
theorem dX14_readUnary_19 : decode cX14_readUnary 19 = .ok (.invokevirtual 260, 3) := by decide +kernel
theorem dX14_readUnary_22 : decode cX14_readUnary 22 = .ok (.ireturn, 1) := by decide +kernel
theorem dX14_readUnary_23 : decode cX14_readUnary 23 = .ok (.aload_n 0, 1) := by decide +kernel
theorem dX14_readUnary_24 : decode cX14_readUnary 24 = .ok (.invokevirtual 253, 3) := by decide +kernel
theorem dX14_readUnary_27 : decode cX14_readUnary 27 = .ok (.aload_n 0, 1) := by decide +kernel
theorem dX14_readUnary_28 : decode cX14_readUnary 28 = .ok (.aload_n 0, 1) := by decide +kernel
theorem dX14_readUnary_29 : decode cX14_readUnary 29 = .ok (.getfield 128, 3) := by decide +kernel
theorem dX14_readUnary_32 : decode cX14_readUnary 32 = .ok (.invokevirtual 263, 3) := by decide +kernel
theorem dX14_readUnary_35 : decode cX14_readUnary 35 = .ok (.aload_n 0, 1) := by decide +kernel
theorem dX14_readUnary_36 : decode cX14_readUnary 36 = .ok (.bipush 45, 2) := by decide +kernel
theorem dX14_readUnary_38 : decode cX14_readUnary 38 = .ok (.invokevirtual 182, 3) := by decide +kernel
theorem dX14_readUnary_41 : decode cX14_readUnary 41 = .ok (.ifCond .eq 8, 3) := by decide +kernel
theorem dX14_readUnary_44 : decode cX14_readUnary 44 = .ok (.bipush 7, 2) := by decide +kernel
theorem dX14_readUnary_46 : decode cX14_readUnary 46 = .ok (.goto 5, 3) := by decide +kernel
theorem dX14_readUnary_49 : decode cX14_readUnary 49 = .ok (.bipush 8, 2) := by decide +kernel
theorem dX14_readUnary_51 : decode cX14_readUnary 51 = .ok (.istore_n 1, 1) := by decide +kernel
theorem dX14_readUnary_52 : decode cX14_readUnary 52 = .ok (.aload_n 0, 1) := by decide +kernel
theorem dX14_readUnary_53 : decode cX14_readUnary 53 = .ok (.getfield 128, 3) := by decide +kernel
theorem dX14_readUnary_56 : decode cX14_readUnary 56 = .ok (.istore_n 2, 1) := by decide +kernel
theorem dX14_readUnary_57 : decode cX14_readUnary 57 = .ok (.aload_n 0, 1) := by decide +kernel
theorem dX14_readUnary_58 : decode cX14_readUnary 58 = .ok (.invokevirtual 185, 3) := by decide +kernel
theorem dX14_readUnary_61 : decode cX14_readUnary 61 = .ok (.aload_n 0, 1) := by decide +kernel
theorem dX14_readUnary_62 : decode cX14_readUnary 62 = .ok (.invokevirtual 247, 3) := by decide +kernel
theorem dX14_readUnary_65 : decode cX14_readUnary 65 = .ok (.istore_n 3, 1) := by decide +kernel
theorem dX14_readUnary_66 : decode cX14_readUnary 66 = .ok (.aload_n 0, 1) := by decide +kernel
theorem dX14_readUnary_67 : decode cX14_readUnary 67 = .ok (.dup, 1) := by decide +kernel
theorem dX14_readUnary_68 : decode cX14_readUnary 68 = .ok (.getfield 241, 3) := by decide +kernel
theorem dX14_readUnary_71 : decode cX14_readUnary 71 = .ok (.iconst 1, 1) := by decide +kernel
theorem dX14_readUnary_72 : decode cX14_readUnary 72 = .ok (.isub, 1) := by decide +kernel
theorem dX14_readUnary_73 : decode cX14_readUnary 73 = .ok (.putfield 241, 3) := by decide +kernel
theorem dX14_readUnary_76 : decode cX14_readUnary 76 = .ok (.aload_n 0, 1) := by decide +kernel
theorem dX14_readUnary_77 : decode cX14_readUnary 77 = .ok (.aload_n 0, 1) := by decide +kernel
theorem dX14_readUnary_78 : decode cX14_readUnary 78 = .ok (.getfield 23, 3) := by decide +kernel
theorem dX14_readUnary_81 : decode cX14_readUnary 81 = .ok (.getfield 226, 3) := by decide +kernel
theorem dX14_readUnary_84 : decode cX14_readUnary 84 = .ok (.iload_n 3, 1) := by decide +kernel
theorem dX14_readUnary_85 : decode cX14_readUnary 85 = .ok (.iaload, 1) := by decide +kernel
theorem dX14_readUnary_86 : decode cX14_readUnary 86 = .ok (.bipush 12, 2) := by decide +kernel
theorem dX14_readUnary_88 : decode cX14_readUnary 88 = .ok (.if_icmp .ge 7, 3) := by decide +kernel
theorem dX14_readUnary_91 : decode cX14_readUnary 91 = .ok (.iconst 1, 1) := by decide +kernel
theorem dX14_readUnary_92 : decode cX14_readUnary 92 = .ok (.goto 4, 3) := by decide +kernel
theorem dX14_readUnary_95 : decode cX14_readUnary 95 = .ok (.iconst 0, 1) := by decide +kernel
theorem dX14_readUnary_96 : decode cX14_readUnary 96 = .ok (.bipush 7, 2) := by decide +kernel
theorem dX14_readUnary_98 : decode cX14_readUnary 98 = .ok (.iload_n 2, 1) := by decide +kernel
theorem dX14_readUnary_99 : decode cX14_readUnary 99 = .ok (.invokevirtual 172, 3) := by decide +kernel
theorem dX14_readUnary_102 : decode cX14_readUnary 102 = .ok (.aload_n 0, 1) := by decide +kernel
theorem dX14_readUnary_103 : decode cX14_readUnary 103 = .ok (.iload_n 1, 1) := by decide +kernel
theorem dX14_readUnary_104 : decode cX14_readUnary 104 = .ok (.iload_n 3, 1) := by decide +kernel
theorem dX14_readUnary_105 : decode cX14_readUnary 105 = .ok (.iconst (-1), 1) := by decide +kernel
theorem dX14_readUnary_106 : decode cX14_readUnary 106 = .ok (.iconst 1, 1) := by decide +kernel
theorem dX14_readUnary_107 : decode cX14_readUnary 107 = .ok (.aload_n 0, 1) := by decide +kernel
theorem dX14_readUnary_108 : decode cX14_readUnary 108 = .ok (.getfield 23, 3) := by decide +kernel
theorem dX14_readUnary_111 : decode cX14_readUnary 111 = .ok (.getfield 226, 3) := by decide +kernel
theorem dX14_readUnary_114 : decode cX14_readUnary 114 = .ok (.iload_n 3, 1) := by decide +kernel
theorem dX14_readUnary_115 : decode cX14_readUnary 115 = .ok (.iaload, 1) := by decide +kernel
theorem dX14_readUnary_116 : decode cX14_readUnary 116 = .ok (.iadd, 1) := by decide +kernel
theorem dX14_readUnary_117 : decode cX14_readUnary 117 = .ok (.invokevirtual 256, 3) := by decide +kernel
theorem dX14_readUnary_120 : decode cX14_readUnary 120 = .ok (.ireturn, 1) := by decide +kernel
theorem dX14_readOne_0 : decode cX14_readOne 0 = .ok (.aload_n 0, 1) := by decide +kernel
theorem dX14_readOne_1 : decode cX14_readOne 1 = .ok (.getfield 128, 3) := by decide +kernel
theorem dX14_readOne_4 : decode cX14_readOne 4 = .ok (.istore_n 1, 1) := by decide +kernel
theorem dX14_readOne_5 : decode cX14_readOne 5 = .ok (.aload_n 0, 1) := by decide +kernel
theorem dX14_readOne_6 : decode cX14_readOne 6 = .ok (.getfield 131, 3) := by decide +kernel
theorem dX14_readOne_9 : decode cX14_readOne 9 = .ok (.iconst 3, 1) := by decide +kernel
theorem dX14_readOne_10 : decode cX14_readOne 10 = .ok (.if_icmp .ne 40, 3) := by decide +kernel
theorem dX14_readOne_13 : decode cX14_readOne 13 = .ok (.aload_n 0, 1) := by decide +kernel
theorem dX14_readOne_14 : decode cX14_readOne 14 = .ok (.invokevirtual 253, 3) := by decide +kernel
theorem dX14_readOne_17 : decode cX14_readOne 17 = .ok (.aload_n 0, 1) := by decide +kernel
theorem dX14_readOne_18 : decode cX14_readOne 18 = .ok (.getfield 162, 3) := by decide +kernel
theorem dX14_readOne_21 : decode cX14_readOne 21 = .ok (.lstore_n 2, 1) := by decide +kernel
theorem dX14_readOne_22 : decode cX14_readOne 22 = .ok (.aload_n 0, 1) := by decide +kernel
theorem dX14_readOne_23 : decode cX14_readOne 23 = .ok (.invokevirtual 185, 3) := by decide +kernel
theorem dX14_readOne_26 : decode cX14_readOne 26 = .ok (.aload_n 0, 1) := by decide +kernel
theorem dX14_readOne_27 : decode cX14_readOne 27 = .ok (.iconst 1, 1) := by decide +kernel
theorem dX14_readOne_28 : decode cX14_readOne 28 = .ok (.iconst (-1), 1) := by decide +kernel
theorem dX14_readOne_29 : decode cX14_readOne 29 = .ok (.iconst (-1), 1) := by decide +kernel
theorem dX14_readOne_30 : decode cX14_readOne 30 = .ok (.iconst 1, 1) := by decide +kernel
theorem dX14_readOne_31 : decode cX14_readOne 31 = .ok (.invokevirtual 256, 3) := by decide +kernel
theorem dX14_readOne_34 : decode cX14_readOne 34 = .ok (.istore 4, 2) := by decide +kernel
theorem dX14_readOne_36 : decode cX14_readOne 36 = .ok (.aload_n 0, 1) := by decide +kernel
theorem dX14_readOne_37 : decode cX14_readOne 37 = .ok (.getfield 23, 3) := by decide +kernel
theorem dX14_readOne_40 : decode cX14_readOne 40 = .ok (.getfield 235, 3) := by decide +kernel
theorem dX14_readOne_43 : decode cX14_readOne 43 = .ok (.iload 4, 2) := by decide +kernel
theorem dX14_readOne_45 : decode cX14_readOne 45 = .ok (.lload_n 2, 1) := by decide +kernel
theorem dX14_readOne_46 : decode cX14_readOne 46 = .ok (.lastore, 1) := by decide +kernel
theorem dX14_readOne_47 : decode cX14_readOne 47 = .ok (.iload 4, 2) := by decide +kernel
theorem dX14_readOne_49 : decode cX14_readOne 49 = .ok (.ireturn, 1) := by decide +kernel
theorem dX14_readOne_50 : decode cX14_readOne 50 = .ok (.aload_n 0, 1) := by decide +kernel
theorem dX14_readOne_51 : decode cX14_readOne 51 = .ok (.bipush 40, 2) := by decide +kernel
theorem dX14_readOne_53 : decode cX14_readOne 53 = .ok (.invokevirtual 182, 3) := by decide +kernel
theorem dX14_readOne_56 : decode cX14_readOne 56 = .ok (.ifCond .eq 23, 3) := by decide +kernel
theorem dX14_readOne_59 : decode cX14_readOne 59 = .ok (.aload_n 0, 1) := by decide +kernel
theorem dX14_readOne_60 : decode cX14_readOne 60 = .ok (.bipush 40, 2) := by decide +kernel
theorem dX14_readOne_62 : decode cX14_readOne 62 = .ok (.invokevirtual 270, 3) := by decide +kernel
theorem dX14_readOne_65 : decode cX14_readOne 65 = .ok (.aload_n 0, 1) := by decide +kernel
theorem dX14_readOne_66 : decode cX14_readOne 66 = .ok (.iconst 1, 1) := by decide +kernel
theorem dX14_readOne_67 : decode cX14_readOne 67 = .ok (.invokevirtual 244, 3) := by decide +kernel
theorem dX14_readOne_70 : decode cX14_readOne 70 = .ok (.istore_n 2, 1) := by decide +kernel
theorem dX14_readOne_71 : decode cX14_readOne 71 = .ok (.aload_n 0, 1) := by decide +kernel
theorem dX14_readOne_72 : decode cX14_readOne 72 = .ok (.bipush 41, 2) := by decide +kernel
theorem dX14_readOne_74 : decode cX14_readOne 74 = .ok (.invokevirtual 273, 3) := by decide +kernel
theorem dX14_readOne_77 : decode cX14_readOne 77 = .ok (.iload_n 2, 1) := by decide +kernel
theorem dX14_readOne_78 : decode cX14_readOne 78 = .ok (.ireturn, 1) := by decide +kernel
theorem dX14_readOne_79 : decode cX14_readOne 79 = .ok (.aload_n 0, 1) := by decide +kernel
theorem dX14_readOne_80 : decode cX14_readOne 80 = .ok (.bipush 18, 2) := by decide +kernel
theorem dX14_readOne_82 : decode cX14_readOne 82 = .ok (.invokevirtual 188, 3) := by decide +kernel
theorem dX14_readOne_85 : decode cX14_readOne 85 = .ok (.ifCond .ne 12, 3) := by decide +kernel
theorem dX14_readOne_88 : decode cX14_readOne 88 = .ok (.aload_n 0, 1) := by decide +kernel
theorem dX14_readOne_89 : decode cX14_readOne 89 = .ok (.bipush 19, 2) := by decide +kernel
theorem dX14_readOne_91 : decode cX14_readOne 91 = .ok (.invokevirtual 188, 3) := by decide +kernel
theorem dX14_readOne_94 : decode cX14_readOne 94 = .ok (.ifCond .eq 128, 3) := by decide +kernel
theorem dX14_readOne_97 : decode cX14_readOne 97 = .ok (.aload_n 0, 1) := by decide +kernel
theorem dX14_readOne_98 : decode cX14_readOne 98 = .ok (.aload_n 0, 1) := by decide +kernel
theorem dX14_readOne_99 : decode cX14_readOne 99 = .ok (.getfield 276, 3) := by decide +kernel
theorem dX14_readOne_102 : decode cX14_readOne 102 = .ok (.iconst 1, 1) := by decide +kernel
theorem dX14_readOne_103 : decode cX14_readOne 103 = .ok (.aload_n 0, 1) := by decide +kernel
theorem dX14_readOne_104 : decode cX14_readOne 104 = .ok (.getfield 128, 3) := by decide +kernel
theorem dX14_readOne_107 : decode cX14_readOne 107 = .ok (.invokevirtual 172, 3) := by decide +kernel
theorem dX14_readOne_110 : decode cX14_readOne 110 = .ok (.aload_n 0, 1) := by decide +kernel
theorem dX14_readOne_111 : decode cX14_readOne 111 = .ok (.invokevirtual 253, 3) := by decide +kernel
theorem dX14_readOne_114 : decode cX14_readOne 114 = .ok (.aload_n 0, 1) := by decide +kernel
theorem dX14_readOne_115 : decode cX14_readOne 115 = .ok (.bipush 19, 2) := by decide +kernel
theorem dX14_readOne_117 : decode cX14_readOne 117 = .ok (.invokevirtual 279, 3) := by decide +kernel
theorem dX14_readOne_120 : decode cX14_readOne 120 = .ok (.ifCond .eq 12, 3) := by decide +kernel
theorem dX14_readOne_123 : decode cX14_readOne 123 = .ok (.aload_n 0, 1) := by decide +kernel
theorem dX14_readOne_124 : decode cX14_readOne 124 = .ok (.iconst 5, 1) := by decide +kernel
theorem dX14_readOne_125 : decode cX14_readOne 125 = .ok (.iconst (-1), 1) := by decide +kernel
theorem dX14_readOne_126 : decode cX14_readOne 126 = .ok (.iconst (-1), 1) := by decide +kernel
theorem dX14_readOne_127 : decode cX14_readOne 127 = .ok (.iconst 1, 1) := by decide +kernel
theorem dX14_readOne_128 : decode cX14_readOne 128 = .ok (.invokevirtual 256, 3) := by decide +kernel
theorem dX14_readOne_131 : decode cX14_readOne 131 = .ok (.ireturn, 1) := by decide +kernel
theorem dX14_readOne_132 : decode cX14_readOne 132 = .ok (.aload_n 0, 1) := by decide +kernel
theorem dX14_readOne_133 : decode cX14_readOne 133 = .ok (.invokevirtual 185, 3) := by decide +kernel
theorem dX14_readOne_136 : decode cX14_readOne 136 = .ok (.aload_n 0, 1) := by decide +kernel
theorem dX14_readOne_137 : decode cX14_readOne 137 = .ok (.bipush 40, 2) := by decide +kernel
theorem dX14_readOne_139 : decode cX14_readOne 139 = .ok (.invokevirtual 270, 3) := by decide +kernel
theorem dX14_readOne_142 : decode cX14_readOne 142 = .ok (.aload_n 0, 1) := by decide +kernel
theorem dX14_readOne_143 : decode cX14_readOne 143 = .ok (.aload_n 0, 1) := by decide +kernel
theorem dX14_readOne_144 : decode cX14_readOne 144 = .ok (.getfield 131, 3) := by decide +kernel
theorem dX14_readOne_147 : decode cX14_readOne 147 = .ok (.iconst 1, 1) := by decide +kernel
theorem dX14_readOne_148 : decode cX14_readOne 148 = .ok (.if_icmp .ne 7, 3) := by decide +kernel
theorem dX14_readOne_151 : decode cX14_readOne 151 = .ok (.iconst 1, 1) := by decide +kernel
theorem dX14_readOne_152 : decode cX14_readOne 152 = .ok (.goto 4, 3) := by decide +kernel
theorem dX14_readOne_155 : decode cX14_readOne 155 = .ok (.iconst 0, 1) := by decide +kernel
theorem dX14_readOne_156 : decode cX14_readOne 156 = .ok (.iconst 1, 1) := by decide +kernel
theorem dX14_readOne_157 : decode cX14_readOne 157 = .ok (.aload_n 0, 1) := by decide +kernel
theorem dX14_readOne_158 : decode cX14_readOne 158 = .ok (.getfield 128, 3) := by decide +kernel
theorem dX14_readOne_161 : decode cX14_readOne 161 = .ok (.invokevirtual 172, 3) := by decide +kernel
theorem dX14_readOne_164 : decode cX14_readOne 164 = .ok (.aload_n 0, 1) := by decide +kernel
theorem dX14_readOne_165 : decode cX14_readOne 165 = .ok (.iconst 1, 1) := by decide +kernel
theorem dX14_readOne_166 : decode cX14_readOne 166 = .ok (.iconst 1, 1) := by decide +kernel
theorem dX14_readOne_167 : decode cX14_readOne 167 = .ok (.invokevirtual 282, 3) := by decide +kernel
theorem dX14_readOne_170 : decode cX14_readOne 170 = .ok (.istore_n 2, 1) := by decide +kernel
theorem dX14_readOne_171 : decode cX14_readOne 171 = .ok (.aload_n 0, 1) := by decide +kernel
theorem dX14_readOne_172 : decode cX14_readOne 172 = .ok (.bipush 41, 2) := by decide +kernel
theorem dX14_readOne_174 : decode cX14_readOne 174 = .ok (.invokevirtual 273, 3) := by decide +kernel
theorem dX14_readOne_177 : decode cX14_readOne 177 = .ok (.aload_n 0, 1) := by decide +kernel
theorem dX14_readOne_178 : decode cX14_readOne 178 = .ok (.aload_n 0, 1) := by decide +kernel
theorem dX14_readOne_179 : decode cX14_readOne 179 = .ok (.getfield 23, 3) := by decide +kernel
theorem dX14_readOne_182 : decode cX14_readOne 182 = .ok (.getfield 226, 3) := by decide +kernel
theorem dX14_readOne_185 : decode cX14_readOne 185 = .ok (.iload_n 2, 1) := by decide +kernel
theorem dX14_readOne_186 : decode cX14_readOne 186 = .ok (.iaload, 1) := by decide +kernel
theorem dX14_readOne_187 : decode cX14_readOne 187 = .ok (.bipush 12, 2) := by decide +kernel
theorem dX14_readOne_189 : decode cX14_readOne 189 = .ok (.if_icmp .ge 7, 3) := by decide +kernel
theorem dX14_readOne_192 : decode cX14_readOne 192 = .ok (.iconst 1, 1) := by decide +kernel
theorem dX14_readOne_193 : decode cX14_readOne 193 = .ok (.goto 4, 3) := by decide +kernel
theorem dX14_readOne_196 : decode cX14_readOne 196 = .ok (.iconst 0, 1) := by decide +kernel
theorem dX14_readOne_197 : decode cX14_readOne 197 = .ok (.bipush 7, 2) := by decide +kernel
theorem dX14_readOne_199 : decode cX14_readOne 199 = .ok (.iload_n 1, 1) := by decide +kernel
theorem dX14_readOne_200 : decode cX14_readOne 200 = .ok (.invokevirtual 172, 3) := by decide +kernel
theorem dX14_readOne_203 : decode cX14_readOne 203 = .ok (.aload_n 0, 1) := by decide +kernel
theorem dX14_readOne_204 : decode cX14_readOne 204 = .ok (.iconst 4, 1) := by decide +kernel
theorem dX14_readOne_205 : decode cX14_readOne 205 = .ok (.iload_n 2, 1) := by decide +kernel
theorem dX14_readOne_206 : decode cX14_readOne 206 = .ok (.iconst (-1), 1) := by decide +kernel
theorem dX14_readOne_207 : decode cX14_readOne 207 = .ok (.iconst 1, 1) := by decide +kernel
theorem dX14_readOne_208 : decode cX14_readOne 208 = .ok (.aload_n 0, 1) := by decide +kernel
theorem dX14_readOne_209 : decode cX14_readOne 209 = .ok (.getfield 23, 3) := by decide +kernel
theorem dX14_readOne_212 : decode cX14_readOne 212 = .ok (.getfield 226, 3) := by decide +kernel
theorem dX14_readOne_215 : decode cX14_readOne 215 = .ok (.iload_n 2, 1) := by decide +kernel
theorem dX14_readOne_216 : decode cX14_readOne 216 = .ok (.iaload, 1) := by decide +kernel
theorem dX14_readOne_217 : decode cX14_readOne 217 = .ok (.iadd, 1) := by decide +kernel
theorem dX14_readOne_218 : decode cX14_readOne 218 = .ok (.invokevirtual 256, 3) := by decide +kernel
theorem dX14_readOne_221 : decode cX14_readOne 221 = .ok (.ireturn, 1) := by decide +kernel
theorem dX14_readOne_222 : decode cX14_readOne 222 = .ok (.aload_n 0, 1) := by decide +kernel
theorem dX14_readOne_223 : decode cX14_readOne 223 = .ok (.bipush 20, 2) := by decide +kernel
theorem dX14_readOne_225 : decode cX14_readOne 225 = .ok (.invokevirtual 188, 3) := by decide +kernel
theorem dX14_readOne_228 : decode cX14_readOne 228 = .ok (.ifCond .eq 148, 3) := by decide +kernel
theorem dX14_readOne_231 : decode cX14_readOne 231 = .ok (.aload_n 0, 1) := by decide +kernel
theorem dX14_readOne_232 : decode cX14_readOne 232 = .ok (.invokevirtual 253, 3) := by decide +kernel
theorem dX14_readOne_235 : decode cX14_readOne 235 = .ok (.aload_n 0, 1) := by decide +kernel
theorem dX14_readOne_236 : decode cX14_readOne 236 = .ok (.invokevirtual 185, 3) := by decide +kernel
theorem dX14_readOne_239 : decode cX14_readOne 239 = .ok (.aload_n 0, 1) := by decide +kernel
theorem dX14_readOne_240 : decode cX14_readOne 240 = .ok (.bipush 40, 2) := by decide +kernel
theorem dX14_readOne_242 : decode cX14_readOne 242 = .ok (.invokevirtual 270, 3) := by decide +kernel
theorem dX14_readOne_245 : decode cX14_readOne 245 = .ok (.aload_n 0, 1) := by decide +kernel
theorem dX14_readOne_246 : decode cX14_readOne 246 = .ok (.aload_n 0, 1) := by decide +kernel
theorem dX14_readOne_247 : decode cX14_readOne 247 = .ok (.getfield 131, 3) := by decide +kernel
theorem dX14_readOne_250 : decode cX14_readOne 250 = .ok (.iconst 1, 1) := by decide +kernel
theorem dX14_readOne_251 : decode cX14_readOne 251 = .ok (.if_icmp .ne 7, 3) := by decide +kernel
theorem dX14_readOne_254 : decode cX14_readOne 254 = .ok (.iconst 1, 1) := by decide +kernel
theorem dX14_readOne_255 : decode cX14_readOne 255 = .ok (.goto 4, 3) := by decide +kernel
theorem dX14_readOne_258 : decode cX14_readOne 258 = .ok (.iconst 0, 1) := by decide +kernel
theorem dX14_readOne_259 : decode cX14_readOne 259 = .ok (.iconst 1, 1) := by decide +kernel
theorem dX14_readOne_260 : decode cX14_readOne 260 = .ok (.aload_n 0, 1) := by decide +kernel
theorem dX14_readOne_261 : decode cX14_readOne 261 = .ok (.getfield 128, 3) := by decide +kernel
theorem dX14_readOne_264 : decode cX14_readOne 264 = .ok (.invokevirtual 172, 3) := by decide +kernel
theorem dX14_readOne_267 : decode cX14_readOne 267 = .ok (.aload_n 0, 1) := by decide +kernel
theorem dX14_readOne_268 : decode cX14_readOne 268 = .ok (.aload_n 0, 1) := by decide +kernel
theorem dX14_readOne_269 : decode cX14_readOne 269 = .ok (.getfield 155, 3) := by decide +kernel
theorem dX14_readOne_272 : decode cX14_readOne 272 = .ok (.aload_n 0, 1) := by decide +kernel
theorem dX14_readOne_273 : decode cX14_readOne 273 = .ok (.getfield 159, 3) := by decide +kernel
theorem dX14_readOne_276 : decode cX14_readOne 276 = .ok (.invokevirtual 286, 3) := by decide +kernel
theorem dX14_readOne_279 : decode cX14_readOne 279 = .ok (.istore_n 2, 1) := by decide +kernel
theorem dX14_readOne_280 : decode cX14_readOne 280 = .ok (.aload_n 0, 1) := by decide +kernel
theorem dX14_readOne_281 : decode cX14_readOne 281 = .ok (.iload_n 2, 1) := by decide +kernel
theorem dX14_readOne_282 : decode cX14_readOne 282 = .ok (.iconst (-1), 1) := by decide +kernel
theorem dX14_readOne_283 : decode cX14_readOne 283 = .ok (.if_icmp .eq 7, 3) := by decide +kernel
theorem dX14_readOne_286 : decode cX14_readOne 286 = .ok (.iconst 1, 1) := by decide +kernel
theorem dX14_readOne_287 : decode cX14_readOne 287 = .ok (.goto 4, 3) := by decide +kernel
theorem dX14_readOne_290 : decode cX14_readOne 290 = .ok (.iconst 0, 1) := by decide +kernel
theorem dX14_readOne_291 : decode cX14_readOne 291 = .ok (.iconst 2, 1) := by decide +kernel
theorem dX14_readOne_292 : decode cX14_readOne 292 = .ok (.aload_n 0, 1) := by decide +kernel
theorem dX14_readOne_293 : decode cX14_readOne 293 = .ok (.getfield 128, 3) := by decide +kernel
theorem dX14_readOne_296 : decode cX14_readOne 296 = .ok (.invokevirtual 172, 3) := by decide +kernel
theorem dX14_readOne_299 : decode cX14_readOne 299 = .ok (.aload_n 0, 1) := by decide +kernel
theorem dX14_readOne_300 : decode cX14_readOne 300 = .ok (.invokevirtual 176, 3) := by decide +kernel
theorem dX14_readOne_303 : decode cX14_readOne 303 = .ok (.aload_n 0, 1) := by decide +kernel
theorem dX14_readOne_304 : decode cX14_readOne 304 = .ok (.iload_n 2, 1) := by decide +kernel
theorem dX14_readOne_305 : decode cX14_readOne 305 = .ok (.sipush 1000, 3) := by decide +kernel
theorem dX14_readOne_308 : decode cX14_readOne 308 = .ok (.if_icmp .ge 27, 3) := by decide +kernel
theorem dX14_readOne_311 : decode cX14_readOne 311 = .ok (.aload_n 0, 1) := by decide +kernel
theorem dX14_readOne_312 : decode cX14_readOne 312 = .ok (.getfield 23, 3) := by decide +kernel
theorem dX14_readOne_315 : decode cX14_readOne 315 = .ok (.getfield 290, 3) := by decide +kernel
theorem dX14_readOne_318 : decode cX14_readOne 318 = .ok (.bipush 10, 2) := by decide +kernel
theorem dX14_readOne_320 : decode cX14_readOne 320 = .ok (.aload_n 0, 1) := by decide +kernel
theorem dX14_readOne_321 : decode cX14_readOne 321 = .ok (.getfield 201, 3) := by decide +kernel
theorem dX14_readOne_324 : decode cX14_readOne 324 = .ok (.imul, 1) := by decide +kernel
theorem dX14_readOne_325 : decode cX14_readOne 325 = .ok (.iload_n 2, 1) := by decide +kernel
theorem dX14_readOne_326 : decode cX14_readOne 326 = .ok (.iadd, 1) := by decide +kernel
theorem dX14_readOne_327 : decode cX14_readOne 327 = .ok (.iaload, 1) := by decide +kernel
theorem dX14_readOne_328 : decode cX14_readOne 328 = .ok (.ifCond .le 7, 3) := by decide +kernel
theorem dX14_readOne_331 : decode cX14_readOne 331 = .ok (.iconst 1, 1) := by decide +kernel
theorem dX14_readOne_332 : decode cX14_readOne 332 = .ok (.goto 4, 3) := by decide +kernel
theorem dX14_readOne_335 : decode cX14_readOne 335 = .ok (.iconst 0, 1) := by decide +kernel
theorem dX14_readOne_336 : decode cX14_readOne 336 = .ok (.iconst 5, 1) := by decide +kernel
theorem dX14_readOne_337 : decode cX14_readOne 337 = .ok (.aload_n 0, 1) := by decide +kernel
theorem dX14_readOne_338 : decode cX14_readOne 338 = .ok (.getfield 128, 3) := by decide +kernel
theorem dX14_readOne_341 : decode cX14_readOne 341 = .ok (.invokevirtual 172, 3) := by decide +kernel
theorem dX14_readOne_344 : decode cX14_readOne 344 = .ok (.aload_n 0, 1) := by decide +kernel
theorem dX14_readOne_345 : decode cX14_readOne 345 = .ok (.invokevirtual 185, 3) := by decide +kernel
theorem dX14_readOne_348 : decode cX14_readOne 348 = .ok (.aload_n 0, 1) := by decide +kernel
theorem dX14_readOne_349 : decode cX14_readOne 349 = .ok (.bipush 41, 2) := by decide +kernel
theorem dX14_readOne_351 : decode cX14_readOne 351 = .ok (.invokevirtual 273, 3) := by decide +kernel
theorem dX14_readOne_354 : decode cX14_readOne 354 = .ok (.aload_n 0, 1) := by decide +kernel
theorem dX14_readOne_355 : decode cX14_readOne 355 = .ok (.bipush 6, 2) := by decide +kernel
theorem dX14_readOne_357 : decode cX14_readOne 357 = .ok (.iconst (-1), 1) := by decide +kernel
theorem dX14_readOne_358 : decode cX14_readOne 358 = .ok (.iconst (-1), 1) := by decide +kernel
theorem dX14_readOne_359 : decode cX14_readOne 359 = .ok (.iconst 1, 1) := by decide +kernel
theorem dX14_readOne_360 : decode cX14_readOne 360 = .ok (.invokevirtual 256, 3) := by decide +kernel
theorem dX14_readOne_363 : decode cX14_readOne 363 = .ok (.istore_n 3, 1) := by decide +kernel
theorem dX14_readOne_364 : decode cX14_readOne 364 = .ok (.aload_n 0, 1) := by decide +kernel
theorem dX14_readOne_365 : decode cX14_readOne 365 = .ok (.getfield 23, 3) := by decide +kernel
theorem dX14_readOne_368 : decode cX14_readOne 368 = .ok (.getfield 223, 3) := by decide +kernel
theorem dX14_readOne_371 : decode cX14_readOne 371 = .ok (.iload_n 3, 1) := by decide +kernel
theorem dX14_readOne_372 : decode cX14_readOne 372 = .ok (.iload_n 2, 1) := by decide +kernel
theorem dX14_readOne_373 : decode cX14_readOne 373 = .ok (.iastore, 1) := by decide +kernel
theorem dX14_readOne_374 : decode cX14_readOne 374 = .ok (.iload_n 3, 1) := by decide +kernel
theorem dX14_readOne_375 : decode cX14_readOne 375 = .ok (.ireturn, 1) := by decide +kernel
theorem dX14_readOne_376 : decode cX14_readOne 376 = .ok (.aload_n 0, 1) := by decide +kernel
theorem dX14_readOne_377 : decode cX14_readOne 377 = .ok (.iconst 1, 1) := by decide +kernel
theorem dX14_readOne_378 : decode cX14_readOne 378 = .ok (.invokevirtual 188, 3) := by decide +kernel
theorem dX14_readOne_381 : decode cX14_readOne 381 = .ok (.ifCond .eq 9, 3) := by decide +kernel
theorem dX14_readOne_384 : decode cX14_readOne 384 = .ok (.aload_n 0, 1) := by decide +kernel
theorem dX14_readOne_385 : decode cX14_readOne 385 = .ok (.iconst 1, 1) := by decide +kernel
theorem dX14_readOne_386 : decode cX14_readOne 386 = .ok (.invokevirtual 293, 3) := by decide +kernel
theorem dX14_readOne_389 : decode cX14_readOne 389 = .ok (.ireturn, 1) := by decide +kernel
theorem dX14_readOne_390 : decode cX14_readOne 390 = .ok (.aload_n 0, 1) := by decide +kernel
theorem dX14_readOne_391 : decode cX14_readOne 391 = .ok (.aload_n 0, 1) := by decide +kernel
theorem dX14_readOne_392 : decode cX14_readOne 392 = .ok (.getfield 131, 3) := by decide +kernel
theorem dX14_readOne_395 : decode cX14_readOne 395 = .ok (.iconst 1, 1) := by decide +kernel
theorem dX14_readOne_396 : decode cX14_readOne 396 = .ok (.if_icmp .ne 7, 3) := by decide +kernel
theorem dX14_readOne_399 : decode cX14_readOne 399 = .ok (.iconst 1, 1) := by decide +kernel
theorem dX14_readOne_400 : decode cX14_readOne 400 = .ok (.goto 4, 3) := by decide +kernel
theorem dX14_readOne_403 : decode cX14_readOne 403 = .ok (.iconst 0, 1) := by decide +kernel
theorem dX14_readOne_404 : decode cX14_readOne 404 = .ok (.iconst 1, 1) := by decide +kernel
theorem dX14_readOne_405 : decode cX14_readOne 405 = .ok (.aload_n 0, 1) := by decide +kernel
theorem dX14_readOne_406 : decode cX14_readOne 406 = .ok (.getfield 128, 3) := by decide +kernel
theorem dX14_readOne_409 : decode cX14_readOne 409 = .ok (.invokevirtual 172, 3) := by decide +kernel
theorem dX14_readOne_412 : decode cX14_readOne 412 = .ok (.aload_n 0, 1) := by decide +kernel
theorem dX14_readOne_413 : decode cX14_readOne 413 = .ok (.iconst 1, 1) := by decide +kernel
theorem dX14_readOne_414 : decode cX14_readOne 414 = .ok (.iconst 0, 1) := by decide +kernel
theorem dX14_readOne_415 : decode cX14_readOne 415 = .ok (.invokevirtual 282, 3) := by decide +kernel
theorem dX14_readOne_418 : decode cX14_readOne 418 = .ok (.ireturn, 1) := by decide +kernel
theorem dX14_readAbove_0 : decode cX14_readAbove 0 = .ok (.iload_n 1, 1) := by decide +kernel
theorem dX14_readAbove_1 : decode cX14_readAbove 1 = .ok (.ifCond .eq 7, 3) := by decide +kernel
theorem dX14_readAbove_4 : decode cX14_readAbove 4 = .ok (.aload_n 0, 1) := by decide +kernel
theorem dX14_readAbove_5 : decode cX14_readAbove 5 = .ok (.invokevirtual 253, 3) := by decide +kernel
theorem dX14_readAbove_8 : decode cX14_readAbove 8 = .ok (.aload_n 0, 1) := by decide +kernel
theorem dX14_readAbove_9 : decode cX14_readAbove 9 = .ok (.invokevirtual 176, 3) := by decide +kernel
theorem dX14_readAbove_12 : decode cX14_readAbove 12 = .ok (.aload_n 0, 1) := by decide +kernel
theorem dX14_readAbove_13 : decode cX14_readAbove 13 = .ok (.getfield 23, 3) := by decide +kernel
theorem dX14_readAbove_16 : decode cX14_readAbove 16 = .ok (.getfield 297, 3) := by decide +kernel
theorem dX14_readAbove_19 : decode cX14_readAbove 19 = .ok (.aload_n 0, 1) := by decide +kernel
theorem dX14_readAbove_20 : decode cX14_readAbove 20 = .ok (.getfield 201, 3) := by decide +kernel
theorem dX14_readAbove_23 : decode cX14_readAbove 23 = .ok (.iaload, 1) := by decide +kernel
theorem dX14_readAbove_24 : decode cX14_readAbove 24 = .ok (.istore_n 2, 1) := by decide +kernel
theorem dX14_readAbove_25 : decode cX14_readAbove 25 = .ok (.aload_n 0, 1) := by decide +kernel
theorem dX14_readAbove_26 : decode cX14_readAbove 26 = .ok (.iload_n 2, 1) := by decide +kernel
theorem dX14_readAbove_27 : decode cX14_readAbove 27 = .ok (.iconst (-1), 1) := by decide +kernel
theorem dX14_readAbove_28 : decode cX14_readAbove 28 = .ok (.if_icmp .eq 7, 3) := by decide +kernel
theorem dX14_readAbove_31 : decode cX14_readAbove 31 = .ok (.iconst 1, 1) := by decide +kernel
theorem dX14_readAbove_32 : decode cX14_readAbove 32 = .ok (.goto 4, 3) := by decide +kernel
theorem dX14_readAbove_35 : decode cX14_readAbove 35 = .ok (.iconst 0, 1) := by decide +kernel
theorem dX14_readAbove_36 : decode cX14_readAbove 36 = .ok (.iconst 5, 1) := by decide +kernel
theorem dX14_readAbove_37 : decode cX14_readAbove 37 = .ok (.aload_n 0, 1) := by decide +kernel
theorem dX14_readAbove_38 : decode cX14_readAbove 38 = .ok (.getfield 128, 3) := by decide +kernel
theorem dX14_readAbove_41 : decode cX14_readAbove 41 = .ok (.invokevirtual 172, 3) := by decide +kernel
theorem dX14_readAbove_44 : decode cX14_readAbove 44 = .ok (.aload_n 0, 1) := by decide +kernel
theorem dX14_readAbove_45 : decode cX14_readAbove 45 = .ok (.invokevirtual 185, 3) := by decide +kernel
theorem dX14_readAbove_48 : decode cX14_readAbove 48 = .ok (.aload_n 0, 1) := by decide +kernel
theorem dX14_readAbove_49 : decode cX14_readAbove 49 = .ok (.bipush 46, 2) := by decide +kernel
theorem dX14_readAbove_51 : decode cX14_readAbove 51 = .ok (.invokevirtual 267, 3) := by decide +kernel
theorem dX14_readAbove_54 : decode cX14_readAbove 54 = .ok (.aload_n 0, 1) := by decide +kernel
theorem dX14_readAbove_55 : decode cX14_readAbove 55 = .ok (.aload_n 0, 1) := by decide +kernel
theorem dX14_readAbove_56 : decode cX14_readAbove 56 = .ok (.getfield 131, 3) := by decide +kernel
theorem dX14_readAbove_59 : decode cX14_readAbove 59 = .ok (.iconst 1, 1) := by decide +kernel
theorem dX14_readAbove_60 : decode cX14_readAbove 60 = .ok (.if_icmp .ne 7, 3) := by decide +kernel
theorem dX14_readAbove_63 : decode cX14_readAbove 63 = .ok (.iconst 1, 1) := by decide +kernel
theorem dX14_readAbove_64 : decode cX14_readAbove 64 = .ok (.goto 4, 3) := by decide +kernel
theorem dX14_readAbove_67 : decode cX14_readAbove 67 = .ok (.iconst 0, 1) := by decide +kernel
theorem dX14_readAbove_68 : decode cX14_readAbove 68 = .ok (.iconst 1, 1) := by decide +kernel
theorem dX14_readAbove_69 : decode cX14_readAbove 69 = .ok (.aload_n 0, 1) := by decide +kernel
theorem dX14_readAbove_70 : decode cX14_readAbove 70 = .ok (.getfield 128, 3) := by decide +kernel
theorem dX14_readAbove_73 : decode cX14_readAbove 73 = .ok (.invokevirtual 172, 3) := by decide +kernel
theorem dX14_readAbove_76 : decode cX14_readAbove 76 = .ok (.aload_n 0, 1) := by decide +kernel
theorem dX14_readAbove_77 : decode cX14_readAbove 77 = .ok (.getfield 155, 3) := by decide +kernel
theorem dX14_readAbove_80 : decode cX14_readAbove 80 = .ok (.lstore_n 3, 1) := by decide +kernel
theorem dX14_readAbove_81 : decode cX14_readAbove 81 = .ok (.aload_n 0, 1) := by decide +kernel
theorem dX14_readAbove_82 : decode cX14_readAbove 82 = .ok (.getfield 159, 3) := by decide +kernel
theorem dX14_readAbove_85 : decode cX14_readAbove 85 = .ok (.lstore 5, 2) := by decide +kernel
theorem dX14_readAbove_87 : decode cX14_readAbove 87 = .ok (.aload_n 0, 1) := by decide +kernel
theorem dX14_readAbove_88 : decode cX14_readAbove 88 = .ok (.getfield 128, 3) := by decide +kernel
theorem dX14_readAbove_91 : decode cX14_readAbove 91 = .ok (.istore 7, 2) := by decide +kernel
theorem dX14_readAbove_93 : decode cX14_readAbove 93 = .ok (.aload_n 0, 1) := by decide +kernel
theorem dX14_readAbove_94 : decode cX14_readAbove 94 = .ok (.getfield 23, 3) := by decide +kernel
theorem dX14_readAbove_97 : decode cX14_readAbove 97 = .ok (.iload_n 2, 1) := by decide +kernel
theorem dX14_readAbove_98 : decode cX14_readAbove 98 = .ok (.lload_n 3, 1) := by decide +kernel
theorem dX14_readAbove_99 : decode cX14_readAbove 99 = .ok (.lload 5, 2) := by decide +kernel
theorem dX14_readAbove_101 : decode cX14_readAbove 101 = .ok (.invokevirtual 300, 3) := by decide +kernel
theorem dX14_readAbove_104 : decode cX14_readAbove 104 = .ok (.istore 8, 2) := by decide +kernel
theorem dX14_readAbove_106 : decode cX14_readAbove 106 = .ok (.aload_n 0, 1) := by decide +kernel
theorem dX14_readAbove_107 : decode cX14_readAbove 107 = .ok (.iload 8, 2) := by decide +kernel
theorem dX14_readAbove_109 : decode cX14_readAbove 109 = .ok (.iconst (-1), 1) := by decide +kernel
theorem dX14_readAbove_110 : decode cX14_readAbove 110 = .ok (.if_icmp .eq 7, 3) := by decide +kernel
theorem dX14_readAbove_113 : decode cX14_readAbove 113 = .ok (.iconst 1, 1) := by decide +kernel
theorem dX14_readAbove_114 : decode cX14_readAbove 114 = .ok (.goto 4, 3) := by decide +kernel
theorem dX14_readAbove_117 : decode cX14_readAbove 117 = .ok (.iconst 0, 1) := by decide +kernel
theorem dX14_readAbove_118 : decode cX14_readAbove 118 = .ok (.iconst 2, 1) := by decide +kernel
theorem dX14_readAbove_119 : decode cX14_readAbove 119 = .ok (.iload 7, 2) := by decide +kernel
theorem dX14_readAbove_121 : decode cX14_readAbove 121 = .ok (.invokevirtual 172, 3) := by decide +kernel
theorem dX14_readAbove_124 : decode cX14_readAbove 124 = .ok (.aload_n 0, 1) := by decide +kernel
theorem dX14_readAbove_125 : decode cX14_readAbove 125 = .ok (.invokevirtual 185, 3) := by decide +kernel
theorem dX14_readAbove_128 : decode cX14_readAbove 128 = .ok (.aload_n 0, 1) := by decide +kernel
theorem dX14_readAbove_129 : decode cX14_readAbove 129 = .ok (.aload_n 0, 1) := by decide +kernel
theorem dX14_readAbove_130 : decode cX14_readAbove 130 = .ok (.getfield 303, 3) := by decide +kernel
theorem dX14_readAbove_133 : decode cX14_readAbove 133 = .ok (.ifCond .ne 10, 3) := by decide +kernel
theorem dX14_readAbove_136 : decode cX14_readAbove 136 = .ok (.aload_n 0, 1) := by decide +kernel
theorem dX14_readAbove_137 : decode cX14_readAbove 137 = .ok (.getfield 191, 3) := by decide +kernel
theorem dX14_readAbove_140 : decode cX14_readAbove 140 = .ok (.ifCond .eq 16, 3) := by decide +kernel
theorem dX14_readAbove_143 : decode cX14_readAbove 143 = .ok (.aload_n 0, 1) := by decide +kernel
theorem dX14_readAbove_144 : decode cX14_readAbove 144 = .ok (.getfield 23, 3) := by decide +kernel
theorem dX14_readAbove_147 : decode cX14_readAbove 147 = .ok (.getfield 306, 3) := by decide +kernel
theorem dX14_readAbove_150 : decode cX14_readAbove 150 = .ok (.iload 8, 2) := by decide +kernel
theorem dX14_readAbove_152 : decode cX14_readAbove 152 = .ok (.baload, 1) := by decide +kernel
theorem dX14_readAbove_153 : decode cX14_readAbove 153 = .ok (.ifCond .eq 7, 3) := by decide +kernel
theorem dX14_readAbove_156 : decode cX14_readAbove 156 = .ok (.iconst 1, 1) := by decide +kernel
theorem dX14_readAbove_157 : decode cX14_readAbove 157 = .ok (.goto 4, 3) := by decide +kernel
theorem dX14_readAbove_160 : decode cX14_readAbove 160 = .ok (.iconst 0, 1) := by decide +kernel
theorem dX14_readAbove_161 : decode cX14_readAbove 161 = .ok (.iconst 5, 1) := by decide +kernel
theorem dX14_readAbove_162 : decode cX14_readAbove 162 = .ok (.iload 7, 2) := by decide +kernel
theorem dX14_readAbove_164 : decode cX14_readAbove 164 = .ok (.invokevirtual 172, 3) := by decide +kernel
theorem dX14_readAbove_167 : decode cX14_readAbove 167 = .ok (.aload_n 0, 1) := by decide +kernel
theorem dX14_readAbove_168 : decode cX14_readAbove 168 = .ok (.bipush 9, 2) := by decide +kernel
theorem dX14_readAbove_170 : decode cX14_readAbove 170 = .ok (.iload 8, 2) := by decide +kernel
theorem dX14_readAbove_172 : decode cX14_readAbove 172 = .ok (.lload_n 3, 1) := by decide +kernel
theorem dX14_readAbove_173 : decode cX14_readAbove 173 = .ok (.lload 5, 2) := by decide +kernel
theorem dX14_readAbove_175 : decode cX14_readAbove 175 = .ok (.iload 7, 2) := by decide +kernel
theorem dX14_readAbove_177 : decode cX14_readAbove 177 = .ok (.iload_n 1, 1) := by decide +kernel
theorem dX14_readAbove_178 : decode cX14_readAbove 178 = .ok (.invokevirtual 310, 3) := by decide +kernel
theorem dX14_readAbove_181 : decode cX14_readAbove 181 = .ok (.ireturn, 1) := by decide +kernel
theorem dX14_readName_0 : decode cX14_readName 0 = .ok (.aload_n 0, 1) := by decide +kernel
theorem dX14_readName_1 : decode cX14_readName 1 = .ok (.getfield 128, 3) := by decide +kernel
theorem dX14_readName_4 : decode cX14_readName 4 = .ok (.istore_n 3, 1) := by decide +kernel
theorem dX14_readName_5 : decode cX14_readName 5 = .ok (.aload_n 0, 1) := by decide +kernel
theorem dX14_readName_6 : decode cX14_readName 6 = .ok (.getfield 155, 3) := by decide +kernel
theorem dX14_readName_9 : decode cX14_readName 9 = .ok (.lstore 4, 2) := by decide +kernel
theorem dX14_readName_11 : decode cX14_readName 11 = .ok (.aload_n 0, 1) := by decide +kernel
theorem dX14_readName_12 : decode cX14_readName 12 = .ok (.getfield 159, 3) := by decide +kernel
theorem dX14_readName_15 : decode cX14_readName 15 = .ok (.lstore 6, 2) := by decide +kernel
theorem dX14_readName_17 : decode cX14_readName 17 = .ok (.aload_n 0, 1) := by decide +kernel
theorem dX14_readName_18 : decode cX14_readName 18 = .ok (.getfield 134, 3) := by decide +kernel
theorem dX14_readName_21 : decode cX14_readName 21 = .ok (.istore 8, 2) := by decide +kernel
theorem dX14_readName_23 : decode cX14_readName 23 = .ok (.aload_n 0, 1) := by decide +kernel
theorem dX14_readName_24 : decode cX14_readName 24 = .ok (.invokevirtual 179, 3) := by decide +kernel
theorem dX14_readName_27 : decode cX14_readName 27 = .ok (.aload_n 0, 1) := by decide +kernel
theorem dX14_readName_28 : decode cX14_readName 28 = .ok (.bipush 40, 2) := by decide +kernel
theorem dX14_readName_30 : decode cX14_readName 30 = .ok (.invokevirtual 182, 3) := by decide +kernel
theorem dX14_readName_33 : decode cX14_readName 33 = .ok (.ifCond .eq 11, 3) := by decide +kernel
theorem dX14_readName_36 : decode cX14_readName 36 = .ok (.iload_n 2, 1) := by decide +kernel
theorem dX14_readName_37 : decode cX14_readName 37 = .ok (.ifCond .ne 7, 3) := by decide +kernel
theorem dX14_readName_40 : decode cX14_readName 40 = .ok (.iconst 1, 1) := by decide +kernel
theorem dX14_readName_41 : decode cX14_readName 41 = .ok (.goto 4, 3) := by decide +kernel
theorem dX14_readName_44 : decode cX14_readName 44 = .ok (.iconst 0, 1) := by decide +kernel
theorem dX14_readName_45 : decode cX14_readName 45 = .ok (.istore 9, 2) := by decide +kernel
theorem dX14_readName_47 : decode cX14_readName 47 = .ok (.aload_n 0, 1) := by decide +kernel
theorem dX14_readName_48 : decode cX14_readName 48 = .ok (.iload 9, 2) := by decide +kernel
theorem dX14_readName_50 : decode cX14_readName 50 = .ok (.ifCond .eq 21, 3) := by decide +kernel
theorem dX14_readName_53 : decode cX14_readName 53 = .ok (.aload_n 0, 1) := by decide +kernel
theorem dX14_readName_54 : decode cX14_readName 54 = .ok (.getfield 23, 3) := by decide +kernel
theorem dX14_readName_57 : decode cX14_readName 57 = .ok (.aload_n 0, 1) := by decide +kernel
theorem dX14_readName_58 : decode cX14_readName 58 = .ok (.getfield 201, 3) := by decide +kernel
theorem dX14_readName_61 : decode cX14_readName 61 = .ok (.lload 4, 2) := by decide +kernel
theorem dX14_readName_63 : decode cX14_readName 63 = .ok (.lload 6, 2) := by decide +kernel
theorem dX14_readName_65 : decode cX14_readName 65 = .ok (.invokevirtual 300, 3) := by decide +kernel
theorem dX14_readName_68 : decode cX14_readName 68 = .ok (.goto 11, 3) := by decide +kernel
theorem dX14_readName_71 : decode cX14_readName 71 = .ok (.aload_n 0, 1) := by decide +kernel
theorem dX14_readName_72 : decode cX14_readName 72 = .ok (.lload 4, 2) := by decide +kernel
theorem dX14_readName_74 : decode cX14_readName 74 = .ok (.lload 6, 2) := by decide +kernel
theorem dX14_readName_76 : decode cX14_readName 76 = .ok (.invokevirtual 286, 3) := by decide +kernel
theorem dX14_readName_79 : decode cX14_readName 79 = .ok (.iconst (-1), 1) := by decide +kernel
theorem dX14_readName_80 : decode cX14_readName 80 = .ok (.if_icmp .eq 7, 3) := by decide +kernel
theorem dX14_readName_83 : decode cX14_readName 83 = .ok (.iconst 1, 1) := by decide +kernel
theorem dX14_readName_84 : decode cX14_readName 84 = .ok (.goto 4, 3) := by decide +kernel
theorem dX14_readName_87 : decode cX14_readName 87 = .ok (.iconst 0, 1) := by decide +kernel
theorem dX14_readName_88 : decode cX14_readName 88 = .ok (.iconst 2, 1) := by decide +kernel
theorem dX14_readName_89 : decode cX14_readName 89 = .ok (.iload_n 3, 1) := by decide +kernel
theorem dX14_readName_90 : decode cX14_readName 90 = .ok (.invokevirtual 172, 3) := by decide +kernel
theorem dX14_readName_93 : decode cX14_readName 93 = .ok (.aload_n 0, 1) := by decide +kernel
theorem dX14_readName_94 : decode cX14_readName 94 = .ok (.iload_n 1, 1) := by decide +kernel
theorem dX14_readName_95 : decode cX14_readName 95 = .ok (.ifCond .eq 24, 3) := by decide +kernel
theorem dX14_readName_98 : decode cX14_readName 98 = .ok (.aload_n 0, 1) := by decide +kernel
theorem dX14_readName_99 : decode cX14_readName 99 = .ok (.getfield 23, 3) := by decide +kernel
theorem dX14_readName_102 : decode cX14_readName 102 = .ok (.getfield 208, 3) := by decide +kernel
theorem dX14_readName_105 : decode cX14_readName 105 = .ok (.sipush 2000, 3) := by decide +kernel
theorem dX14_readName_108 : decode cX14_readName 108 = .ok (.if_icmp .ge 7, 3) := by decide +kernel
theorem dX14_readName_111 : decode cX14_readName 111 = .ok (.iconst 1, 1) := by decide +kernel
theorem dX14_readName_112 : decode cX14_readName 112 = .ok (.goto 29, 3) := by decide +kernel
theorem dX14_readName_115 : decode cX14_readName 115 = .ok (.iconst 0, 1) := by decide +kernel
theorem dX14_readName_116 : decode cX14_readName 116 = .ok (.goto 25, 3) := by decide +kernel
theorem dX14_readName_119 : decode cX14_readName 119 = .ok (.aload_n 0, 1) := by decide +kernel
theorem dX14_readName_120 : decode cX14_readName 120 = .ok (.getfield 23, 3) := by decide +kernel
theorem dX14_readName_123 : decode cX14_readName 123 = .ok (.getfield 314, 3) := by decide +kernel
theorem dX14_readName_126 : decode cX14_readName 126 = .ok (.aload_n 0, 1) := by decide +kernel
theorem dX14_readName_127 : decode cX14_readName 127 = .ok (.getfield 317, 3) := by decide +kernel
theorem dX14_readName_130 : decode cX14_readName 130 = .ok (.iaload, 1) := by decide +kernel
theorem dX14_readName_131 : decode cX14_readName 131 = .ok (.bipush 40, 2) := by decide +kernel
theorem dX14_readName_133 : decode cX14_readName 133 = .ok (.if_icmp .ge 7, 3) := by decide +kernel
theorem dX14_readName_136 : decode cX14_readName 136 = .ok (.iconst 1, 1) := by decide +kernel
theorem dX14_readName_137 : decode cX14_readName 137 = .ok (.goto 4, 3) := by decide +kernel
theorem dX14_readName_140 : decode cX14_readName 140 = .ok (.iconst 0, 1) := by decide +kernel
theorem dX14_readName_141 : decode cX14_readName 141 = .ok (.iconst 4, 1) := by decide +kernel
theorem dX14_readName_142 : decode cX14_readName 142 = .ok (.iload_n 3, 1) := by decide +kernel
theorem dX14_readName_143 : decode cX14_readName 143 = .ok (.invokevirtual 172, 3) := by decide +kernel
theorem dX14_readName_146 : decode cX14_readName 146 = .ok (.aload_n 0, 1) := by decide +kernel
theorem dX14_readName_147 : decode cX14_readName 147 = .ok (.iload 8, 2) := by decide +kernel
theorem dX14_readName_149 : decode cX14_readName 149 = .ok (.sipush 1200, 3) := by decide +kernel
theorem dX14_readName_152 : decode cX14_readName 152 = .ok (.if_icmp .gt 7, 3) := by decide +kernel
theorem dX14_readName_155 : decode cX14_readName 155 = .ok (.iconst 1, 1) := by decide +kernel
theorem dX14_readName_156 : decode cX14_readName 156 = .ok (.goto 4, 3) := by decide +kernel
theorem dX14_readName_159 : decode cX14_readName 159 = .ok (.iconst 0, 1) := by decide +kernel
theorem dX14_readName_160 : decode cX14_readName 160 = .ok (.iconst 4, 1) := by decide +kernel
theorem dX14_readName_161 : decode cX14_readName 161 = .ok (.iload_n 3, 1) := by decide +kernel
theorem dX14_readName_162 : decode cX14_readName 162 = .ok (.invokevirtual 172, 3) := by decide +kernel
theorem dX14_readName_165 : decode cX14_readName 165 = .ok (.iload_n 1, 1) := by decide +kernel
theorem dX14_readName_166 : decode cX14_readName 166 = .ok (.ifCond .eq 19, 3) := by decide +kernel
theorem dX14_readName_169 : decode cX14_readName 169 = .ok (.aload_n 0, 1) := by decide +kernel
theorem dX14_readName_170 : decode cX14_readName 170 = .ok (.getfield 23, 3) := by decide +kernel
theorem dX14_readName_173 : decode cX14_readName 173 = .ok (.dup, 1) := by decide +kernel
theorem dX14_readName_174 : decode cX14_readName 174 = .ok (.getfield 208, 3) := by decide +kernel
theorem dX14_readName_177 : decode cX14_readName 177 = .ok (.iconst 1, 1) := by decide +kernel
theorem dX14_readName_178 : decode cX14_readName 178 = .ok (.iadd, 1) := by decide +kernel
theorem dX14_readName_179 : decode cX14_readName 179 = .ok (.putfield 208, 3) := by decide +kernel
theorem dX14_readName_182 : decode cX14_readName 182 = .ok (.goto 19, 3) := by decide +kernel
theorem dX14_readName_185 : decode cX14_readName 185 = .ok (.aload_n 0, 1) := by decide +kernel
theorem dX14_readName_186 : decode cX14_readName 186 = .ok (.getfield 23, 3) := by decide +kernel
theorem dX14_readName_189 : decode cX14_readName 189 = .ok (.getfield 314, 3) := by decide +kernel
theorem dX14_readName_192 : decode cX14_readName 192 = .ok (.aload_n 0, 1) := by decide +kernel
theorem dX14_readName_193 : decode cX14_readName 193 = .ok (.getfield 317, 3) := by decide +kernel
theorem dX14_readName_196 : decode cX14_readName 196 = .ok (.dup2, 1) := by decide +kernel
theorem dX14_readName_197 : decode cX14_readName 197 = .ok (.iaload, 1) := by decide +kernel
theorem dX14_readName_198 : decode cX14_readName 198 = .ok (.iconst 1, 1) := by decide +kernel
theorem dX14_readName_199 : decode cX14_readName 199 = .ok (.iadd, 1) := by decide +kernel
theorem dX14_readName_200 : decode cX14_readName 200 = .ok (.iastore, 1) := by decide +kernel
theorem dX14_readName_201 : decode cX14_readName 201 = .ok (.iload 9, 2) := by decide +kernel
theorem dX14_readName_203 : decode cX14_readName 203 = .ok (.ifCond .eq 72, 3) := by decide +kernel
theorem dX14_readName_206 : decode cX14_readName 206 = .ok (.aload_n 0, 1) := by decide +kernel
theorem dX14_readName_207 : decode cX14_readName 207 = .ok (.getfield 23, 3) := by decide +kernel
theorem dX14_readName_210 : decode cX14_readName 210 = .ok (.aload_n 0, 1) := by decide +kernel
theorem dX14_readName_211 : decode cX14_readName 211 = .ok (.getfield 201, 3) := by decide +kernel
theorem dX14_readName_214 : decode cX14_readName 214 = .ok (.lload 4, 2) := by decide +kernel
theorem dX14_readName_216 : decode cX14_readName 216 = .ok (.lload 6, 2) := by decide +kernel
theorem dX14_readName_218 : decode cX14_readName 218 = .ok (.invokevirtual 300, 3) := by decide +kernel
theorem dX14_readName_221 : decode cX14_readName 221 = .ok (.istore 10, 2) := by decide +kernel
theorem dX14_readName_223 : decode cX14_readName 223 = .ok (.aload_n 0, 1) := by decide +kernel
theorem dX14_readName_224 : decode cX14_readName 224 = .ok (.aload_n 0, 1) := by decide +kernel
theorem dX14_readName_225 : decode cX14_readName 225 = .ok (.getfield 303, 3) := by decide +kernel
theorem dX14_readName_228 : decode cX14_readName 228 = .ok (.ifCond .ne 10, 3) := by decide +kernel
theorem dX14_readName_231 : decode cX14_readName 231 = .ok (.aload_n 0, 1) := by decide +kernel
theorem dX14_readName_232 : decode cX14_readName 232 = .ok (.getfield 191, 3) := by decide +kernel
theorem dX14_readName_235 : decode cX14_readName 235 = .ok (.ifCond .eq 16, 3) := by decide +kernel
theorem dX14_readName_238 : decode cX14_readName 238 = .ok (.aload_n 0, 1) := by decide +kernel
theorem dX14_readName_239 : decode cX14_readName 239 = .ok (.getfield 23, 3) := by decide +kernel
theorem dX14_readName_242 : decode cX14_readName 242 = .ok (.getfield 306, 3) := by decide +kernel
theorem dX14_readName_245 : decode cX14_readName 245 = .ok (.iload 10, 2) := by decide +kernel
theorem dX14_readName_247 : decode cX14_readName 247 = .ok (.baload, 1) := by decide +kernel
theorem dX14_readName_248 : decode cX14_readName 248 = .ok (.ifCond .eq 7, 3) := by decide +kernel
theorem dX14_readName_251 : decode cX14_readName 251 = .ok (.iconst 1, 1) := by decide +kernel
theorem dX14_readName_252 : decode cX14_readName 252 = .ok (.goto 4, 3) := by decide +kernel
theorem dX14_readName_255 : decode cX14_readName 255 = .ok (.iconst 0, 1) := by decide +kernel
theorem dX14_readName_256 : decode cX14_readName 256 = .ok (.iconst 5, 1) := by decide +kernel
theorem dX14_readName_257 : decode cX14_readName 257 = .ok (.iload_n 3, 1) := by decide +kernel
theorem dX14_readName_258 : decode cX14_readName 258 = .ok (.invokevirtual 172, 3) := by decide +kernel
theorem dX14_readName_261 : decode cX14_readName 261 = .ok (.aload_n 0, 1) := by decide +kernel
theorem dX14_readName_262 : decode cX14_readName 262 = .ok (.iconst 3, 1) := by decide +kernel
theorem dX14_readName_263 : decode cX14_readName 263 = .ok (.iload 10, 2) := by decide +kernel
theorem dX14_readName_265 : decode cX14_readName 265 = .ok (.lload 4, 2) := by decide +kernel
theorem dX14_readName_267 : decode cX14_readName 267 = .ok (.lload 6, 2) := by decide +kernel
theorem dX14_readName_269 : decode cX14_readName 269 = .ok (.iload_n 3, 1) := by decide +kernel
theorem dX14_readName_270 : decode cX14_readName 270 = .ok (.iload_n 1, 1) := by decide +kernel
theorem dX14_readName_271 : decode cX14_readName 271 = .ok (.invokevirtual 310, 3) := by decide +kernel
theorem dX14_readName_274 : decode cX14_readName 274 = .ok (.ireturn, 1) := by decide +kernel
theorem dX14_readName_275 : decode cX14_readName 275 = .ok (.aload_n 0, 1) := by decide +kernel
theorem dX14_readName_276 : decode cX14_readName 276 = .ok (.lload 4, 2) := by decide +kernel
theorem dX14_readName_278 : decode cX14_readName 278 = .ok (.lload 6, 2) := by decide +kernel
theorem dX14_readName_280 : decode cX14_readName 280 = .ok (.invokevirtual 286, 3) := by decide +kernel
theorem dX14_readName_283 : decode cX14_readName 283 = .ok (.istore 10, 2) := by decide +kernel
theorem dX14_readName_285 : decode cX14_readName 285 = .ok (.aload_n 0, 1) := by decide +kernel
theorem dX14_readName_286 : decode cX14_readName 286 = .ok (.iload_n 2, 1) := by decide +kernel
theorem dX14_readName_287 : decode cX14_readName 287 = .ok (.ifCond .eq 11, 3) := by decide +kernel
theorem dX14_readName_290 : decode cX14_readName 290 = .ok (.iload 10, 2) := by decide +kernel
theorem dX14_readName_292 : decode cX14_readName 292 = .ok (.sipush 1000, 3) := by decide +kernel
theorem dX14_readName_295 : decode cX14_readName 295 = .ok (.if_icmp .ge 7, 3) := by decide +kernel
theorem dX14_readName_298 : decode cX14_readName 298 = .ok (.iconst 1, 1) := by decide +kernel
theorem dX14_readName_299 : decode cX14_readName 299 = .ok (.goto 4, 3) := by decide +kernel
theorem dX14_readName_302 : decode cX14_readName 302 = .ok (.iconst 0, 1) := by decide +kernel
theorem dX14_readName_303 : decode cX14_readName 303 = .ok (.iconst 5, 1) := by decide +kernel
theorem dX14_readName_304 : decode cX14_readName 304 = .ok (.iload_n 3, 1) := by decide +kernel
theorem dX14_readName_305 : decode cX14_readName 305 = .ok (.invokevirtual 172, 3) := by decide +kernel
theorem dX14_readName_308 : decode cX14_readName 308 = .ok (.aload_n 0, 1) := by decide +kernel
theorem dX14_readName_309 : decode cX14_readName 309 = .ok (.iload 10, 2) := by decide +kernel
theorem dX14_readName_311 : decode cX14_readName 311 = .ok (.iload_n 3, 1) := by decide +kernel
theorem dX14_readName_312 : decode cX14_readName 312 = .ok (.iload_n 1, 1) := by decide +kernel
theorem dX14_readName_313 : decode cX14_readName 313 = .ok (.invokevirtual 320, 3) := by decide +kernel
theorem dX14_readName_316 : decode cX14_readName 316 = .ok (.ireturn, 1) := by decide +kernel
theorem dX14_readPlace_0 : decode cX14_readPlace 0 = .ok (.iload_n 1, 1) := by decide +kernel
theorem dX14_readPlace_1 : decode cX14_readPlace 1 = .ok (.sipush 1000, 3) := by decide +kernel
theorem dX14_readPlace_4 : decode cX14_readPlace 4 = .ok (.if_icmp .ge 27, 3) := by decide +kernel
theorem dX14_readPlace_7 : decode cX14_readPlace 7 = .ok (.aload_n 0, 1) := by decide +kernel
theorem dX14_readPlace_8 : decode cX14_readPlace 8 = .ok (.getfield 23, 3) := by decide +kernel
theorem dX14_readPlace_11 : decode cX14_readPlace 11 = .ok (.getfield 290, 3) := by decide +kernel
theorem dX14_readPlace_14 : decode cX14_readPlace 14 = .ok (.bipush 10, 2) := by decide +kernel
theorem dX14_readPlace_16 : decode cX14_readPlace 16 = .ok (.aload_n 0, 1) := by decide +kernel
theorem dX14_readPlace_17 : decode cX14_readPlace 17 = .ok (.getfield 201, 3) := by decide +kernel
theorem dX14_readPlace_20 : decode cX14_readPlace 20 = .ok (.imul, 1) := by decide +kernel
theorem dX14_readPlace_21 : decode cX14_readPlace 21 = .ok (.iload_n 1, 1) := by decide +kernel
theorem dX14_readPlace_22 : decode cX14_readPlace 22 = .ok (.iadd, 1) := by decide +kernel
theorem dX14_readPlace_23 : decode cX14_readPlace 23 = .ok (.iaload, 1) := by decide +kernel
theorem dX14_readPlace_24 : decode cX14_readPlace 24 = .ok (.ifCond .le 7, 3) := by decide +kernel
theorem dX14_readPlace_27 : decode cX14_readPlace 27 = .ok (.iconst 1, 1) := by decide +kernel
theorem dX14_readPlace_28 : decode cX14_readPlace 28 = .ok (.goto 4, 3) := by decide +kernel
theorem dX14_readPlace_31 : decode cX14_readPlace 31 = .ok (.iconst 0, 1) := by decide +kernel
theorem dX14_readPlace_32 : decode cX14_readPlace 32 = .ok (.istore 4, 2) := by decide +kernel
theorem dX14_readPlace_34 : decode cX14_readPlace 34 = .ok (.aload_n 0, 1) := by decide +kernel
theorem dX14_readPlace_35 : decode cX14_readPlace 35 = .ok (.iload 4, 2) := by decide +kernel
theorem dX14_readPlace_37 : decode cX14_readPlace 37 = .ok (.aload_n 0, 1) := by decide +kernel
theorem dX14_readPlace_38 : decode cX14_readPlace 38 = .ok (.bipush 91, 2) := by decide +kernel
theorem dX14_readPlace_40 : decode cX14_readPlace 40 = .ok (.invokevirtual 182, 3) := by decide +kernel
theorem dX14_readPlace_43 : decode cX14_readPlace 43 = .ok (.if_icmp .ne 7, 3) := by decide +kernel
theorem dX14_readPlace_46 : decode cX14_readPlace 46 = .ok (.iconst 1, 1) := by decide +kernel
theorem dX14_readPlace_47 : decode cX14_readPlace 47 = .ok (.goto 4, 3) := by decide +kernel
theorem dX14_readPlace_50 : decode cX14_readPlace 50 = .ok (.iconst 0, 1) := by decide +kernel
theorem dX14_readPlace_51 : decode cX14_readPlace 51 = .ok (.iconst 5, 1) := by decide +kernel
theorem dX14_readPlace_52 : decode cX14_readPlace 52 = .ok (.iload_n 2, 1) := by decide +kernel
theorem dX14_readPlace_53 : decode cX14_readPlace 53 = .ok (.invokevirtual 172, 3) := by decide +kernel
theorem dX14_readPlace_56 : decode cX14_readPlace 56 = .ok (.iconst (-1), 1) := by decide +kernel
theorem dX14_readPlace_57 : decode cX14_readPlace 57 = .ok (.istore 5, 2) := by decide +kernel
theorem dX14_readPlace_59 : decode cX14_readPlace 59 = .ok (.iload 4, 2) := by decide +kernel
theorem dX14_readPlace_61 : decode cX14_readPlace 61 = .ok (.ifCond .eq 22, 3) := by decide +kernel
theorem dX14_readPlace_64 : decode cX14_readPlace 64 = .ok (.aload_n 0, 1) := by decide +kernel
theorem dX14_readPlace_65 : decode cX14_readPlace 65 = .ok (.bipush 91, 2) := by decide +kernel
theorem dX14_readPlace_67 : decode cX14_readPlace 67 = .ok (.invokevirtual 270, 3) := by decide +kernel
theorem dX14_readPlace_70 : decode cX14_readPlace 70 = .ok (.aload_n 0, 1) := by decide +kernel
theorem dX14_readPlace_71 : decode cX14_readPlace 71 = .ok (.iconst 1, 1) := by decide +kernel
theorem dX14_readPlace_72 : decode cX14_readPlace 72 = .ok (.invokevirtual 244, 3) := by decide +kernel
theorem dX14_readPlace_75 : decode cX14_readPlace 75 = .ok (.istore 5, 2) := by decide +kernel
theorem dX14_readPlace_77 : decode cX14_readPlace 77 = .ok (.aload_n 0, 1) := by decide +kernel
theorem dX14_readPlace_78 : decode cX14_readPlace 78 = .ok (.bipush 93, 2) := by decide +kernel
theorem dX14_readPlace_80 : decode cX14_readPlace 80 = .ok (.invokevirtual 273, 3) := by decide +kernel
theorem dX14_readPlace_83 : decode cX14_readPlace 83 = .ok (.iload 5, 2) := by decide +kernel
theorem dX14_readPlace_85 : decode cX14_readPlace 85 = .ok (.iconst (-1), 1) := by decide +kernel
theorem dX14_readPlace_86 : decode cX14_readPlace 86 = .ok (.if_icmp .ne 7, 3) := by decide +kernel
theorem dX14_readPlace_89 : decode cX14_readPlace 89 = .ok (.iconst 1, 1) := by decide +kernel
theorem dX14_readPlace_90 : decode cX14_readPlace 90 = .ok (.goto 15, 3) := by decide +kernel
theorem dX14_readPlace_93 : decode cX14_readPlace 93 = .ok (.iconst 1, 1) := by decide +kernel
theorem dX14_readPlace_94 : decode cX14_readPlace 94 = .ok (.aload_n 0, 1) := by decide +kernel
theorem dX14_readPlace_95 : decode cX14_readPlace 95 = .ok (.getfield 23, 3) := by decide +kernel
theorem dX14_readPlace_98 : decode cX14_readPlace 98 = .ok (.getfield 226, 3) := by decide +kernel
theorem dX14_readPlace_101 : decode cX14_readPlace 101 = .ok (.iload 5, 2) := by decide +kernel
theorem dX14_readPlace_103 : decode cX14_readPlace 103 = .ok (.iaload, 1) := by decide +kernel
theorem dX14_readPlace_104 : decode cX14_readPlace 104 = .ok (.iadd, 1) := by decide +kernel
theorem dX14_readPlace_105 : decode cX14_readPlace 105 = .ok (.istore 6, 2) := by decide +kernel
theorem dX14_readPlace_107 : decode cX14_readPlace 107 = .ok (.aload_n 0, 1) := by decide +kernel
theorem dX14_readPlace_108 : decode cX14_readPlace 108 = .ok (.iload_n 3, 1) := by decide +kernel
theorem dX14_readPlace_109 : decode cX14_readPlace 109 = .ok (.ifCond .eq 10, 3) := by decide +kernel
theorem dX14_readPlace_112 : decode cX14_readPlace 112 = .ok (.iload 6, 2) := by decide +kernel
theorem dX14_readPlace_114 : decode cX14_readPlace 114 = .ok (.bipush 12, 2) := by decide +kernel
theorem dX14_readPlace_116 : decode cX14_readPlace 116 = .ok (.if_icmp .gt 7, 3) := by decide +kernel
theorem dX14_readPlace_119 : decode cX14_readPlace 119 = .ok (.iconst 1, 1) := by decide +kernel
theorem dX14_readPlace_120 : decode cX14_readPlace 120 = .ok (.goto 4, 3) := by decide +kernel
theorem dX14_readPlace_123 : decode cX14_readPlace 123 = .ok (.iconst 0, 1) := by decide +kernel
theorem dX14_readPlace_124 : decode cX14_readPlace 124 = .ok (.bipush 7, 2) := by decide +kernel
theorem dX14_readPlace_126 : decode cX14_readPlace 126 = .ok (.iload_n 2, 1) := by decide +kernel
theorem dX14_readPlace_127 : decode cX14_readPlace 127 = .ok (.invokevirtual 172, 3) := by decide +kernel
theorem dX14_readPlace_130 : decode cX14_readPlace 130 = .ok (.aload_n 0, 1) := by decide +kernel
theorem dX14_readPlace_131 : decode cX14_readPlace 131 = .ok (.iconst 2, 1) := by decide +kernel
theorem dX14_readPlace_132 : decode cX14_readPlace 132 = .ok (.iload 5, 2) := by decide +kernel
theorem dX14_readPlace_134 : decode cX14_readPlace 134 = .ok (.iconst (-1), 1) := by decide +kernel
theorem dX14_readPlace_135 : decode cX14_readPlace 135 = .ok (.iload 6, 2) := by decide +kernel
theorem dX14_readPlace_137 : decode cX14_readPlace 137 = .ok (.invokevirtual 256, 3) := by decide +kernel
theorem dX14_readPlace_140 : decode cX14_readPlace 140 = .ok (.istore 7, 2) := by decide +kernel
theorem dX14_readPlace_142 : decode cX14_readPlace 142 = .ok (.aload_n 0, 1) := by decide +kernel
theorem dX14_readPlace_143 : decode cX14_readPlace 143 = .ok (.getfield 23, 3) := by decide +kernel
theorem dX14_readPlace_146 : decode cX14_readPlace 146 = .ok (.getfield 223, 3) := by decide +kernel
theorem dX14_readPlace_149 : decode cX14_readPlace 149 = .ok (.iload 7, 2) := by decide +kernel
theorem dX14_readPlace_151 : decode cX14_readPlace 151 = .ok (.iload_n 1, 1) := by decide +kernel
theorem dX14_readPlace_152 : decode cX14_readPlace 152 = .ok (.iastore, 1) := by decide +kernel
theorem dX14_readPlace_153 : decode cX14_readPlace 153 = .ok (.iload 7, 2) := by decide +kernel
theorem dX14_readPlace_155 : decode cX14_readPlace 155 = .ok (.ireturn, 1) := by decide +kernel
theorem dX14_readCall_0 : decode cX14_readCall 0 = .ok (.aload_n 0, 1) := by decide +kernel
theorem dX14_readCall_1 : decode cX14_readCall 1 = .ok (.getfield 128, 3) := by decide +kernel
theorem dX14_readCall_4 : decode cX14_readCall 4 = .ok (.istore 9, 2) := by decide +kernel
theorem dX14_readCall_6 : decode cX14_readCall 6 = .ok (.aload_n 0, 1) := by decide +kernel
theorem dX14_readCall_7 : decode cX14_readCall 7 = .ok (.bipush 40, 2) := by decide +kernel
theorem dX14_readCall_9 : decode cX14_readCall 9 = .ok (.invokevirtual 270, 3) := by decide +kernel
theorem dX14_readCall_12 : decode cX14_readCall 12 = .ok (.aload_n 0, 1) := by decide +kernel
theorem dX14_readCall_13 : decode cX14_readCall 13 = .ok (.aload_n 0, 1) := by decide +kernel
theorem dX14_readCall_14 : decode cX14_readCall 14 = .ok (.getfield 23, 3) := by decide +kernel
theorem dX14_readCall_17 : decode cX14_readCall 17 = .ok (.getfield 324, 3) := by decide +kernel
theorem dX14_readCall_20 : decode cX14_readCall 20 = .ok (.iload_n 2, 1) := by decide +kernel
theorem dX14_readCall_21 : decode cX14_readCall 21 = .ok (.iaload, 1) := by decide +kernel
theorem dX14_readCall_22 : decode cX14_readCall 22 = .ok (.ifCond .gt 12, 3) := by decide +kernel
theorem dX14_readCall_25 : decode cX14_readCall 25 = .ok (.aload_n 0, 1) := by decide +kernel
theorem dX14_readCall_26 : decode cX14_readCall 26 = .ok (.bipush 41, 2) := by decide +kernel
theorem dX14_readCall_28 : decode cX14_readCall 28 = .ok (.invokevirtual 182, 3) := by decide +kernel
theorem dX14_readCall_31 : decode cX14_readCall 31 = .ok (.ifCond .eq 7, 3) := by decide +kernel
theorem dX14_readCall_34 : decode cX14_readCall 34 = .ok (.iconst 1, 1) := by decide +kernel
theorem dX14_readCall_35 : decode cX14_readCall 35 = .ok (.goto 4, 3) := by decide +kernel
theorem dX14_readCall_38 : decode cX14_readCall 38 = .ok (.iconst 0, 1) := by decide +kernel
theorem dX14_readCall_39 : decode cX14_readCall 39 = .ok (.bipush 6, 2) := by decide +kernel
theorem dX14_readCall_41 : decode cX14_readCall 41 = .ok (.iload 9, 2) := by decide +kernel
theorem dX14_readCall_43 : decode cX14_readCall 43 = .ok (.invokevirtual 172, 3) := by decide +kernel
theorem dX14_readCall_46 : decode cX14_readCall 46 = .ok (.iconst 3, 1) := by decide +kernel
theorem dX14_readCall_47 : decode cX14_readCall 47 = .ok (.newarray .int, 2) := by decide +kernel
theorem dX14_readCall_49 : decode cX14_readCall 49 = .ok (.astore 10, 2) := by decide +kernel
theorem dX14_readCall_51 : decode cX14_readCall 51 = .ok (.iconst 0, 1) := by decide +kernel
theorem dX14_readCall_52 : decode cX14_readCall 52 = .ok (.istore 11, 2) := by decide +kernel
theorem dX14_readCall_54 : decode cX14_readCall 54 = .ok (.iconst 0, 1) := by decide +kernel
theorem dX14_readCall_55 : decode cX14_readCall 55 = .ok (.istore 12, 2) := by decide +kernel
theorem dX14_readCall_57 : decode cX14_readCall 57 = .ok (.aload_n 0, 1) := by decide +kernel
theorem dX14_readCall_58 : decode cX14_readCall 58 = .ok (.bipush 41, 2) := by decide +kernel
theorem dX14_readCall_60 : decode cX14_readCall 60 = .ok (.invokevirtual 182, 3) := by decide +kernel
theorem dX14_readCall_63 : decode cX14_readCall 63 = .ok (.ifCond .ne 7, 3) := by decide +kernel
theorem dX14_readCall_66 : decode cX14_readCall 66 = .ok (.iconst 1, 1) := by decide +kernel
theorem dX14_readCall_67 : decode cX14_readCall 67 = .ok (.goto 4, 3) := by decide +kernel
theorem dX14_readCall_70 : decode cX14_readCall 70 = .ok (.iconst 0, 1) := by decide +kernel
theorem dX14_readCall_71 : decode cX14_readCall 71 = .ok (.istore 13, 2) := by decide +kernel
theorem dX14_readCall_73 : decode cX14_readCall 73 = .ok (.iload 13, 2) := by decide +kernel
theorem dX14_readCall_75 : decode cX14_readCall 75 = .ok (.ifCond .eq 110, 3) := by decide +kernel
theorem dX14_readCall_78 : decode cX14_readCall 78 = .ok (.aload 10, 2) := by decide +kernel
theorem dX14_readCall_80 : decode cX14_readCall 80 = .ok (.iload 11, 2) := by decide +kernel
theorem dX14_readCall_82 : decode cX14_readCall 82 = .ok (.aload_n 0, 1) := by decide +kernel
theorem dX14_readCall_83 : decode cX14_readCall 83 = .ok (.iconst 1, 1) := by decide +kernel
theorem dX14_readCall_84 : decode cX14_readCall 84 = .ok (.invokevirtual 244, 3) := by decide +kernel
theorem dX14_readCall_87 : decode cX14_readCall 87 = .ok (.iastore, 1) := by decide +kernel
theorem dX14_readCall_88 : decode cX14_readCall 88 = .ok (.aload_n 0, 1) := by decide +kernel
theorem dX14_readCall_89 : decode cX14_readCall 89 = .ok (.getfield 23, 3) := by decide +kernel
theorem dX14_readCall_92 : decode cX14_readCall 92 = .ok (.getfield 226, 3) := by decide +kernel
theorem dX14_readCall_95 : decode cX14_readCall 95 = .ok (.aload 10, 2) := by decide +kernel
theorem dX14_readCall_97 : decode cX14_readCall 97 = .ok (.iload 11, 2) := by decide +kernel
theorem dX14_readCall_99 : decode cX14_readCall 99 = .ok (.iaload, 1) := by decide +kernel
theorem dX14_readCall_100 : decode cX14_readCall 100 = .ok (.iaload, 1) := by decide +kernel
theorem dX14_readCall_101 : decode cX14_readCall 101 = .ok (.iload 12, 2) := by decide +kernel
theorem dX14_readCall_103 : decode cX14_readCall 103 = .ok (.if_icmp .le 19, 3) := by decide +kernel
theorem dX14_readCall_106 : decode cX14_readCall 106 = .ok (.aload_n 0, 1) := by decide +kernel
theorem dX14_readCall_107 : decode cX14_readCall 107 = .ok (.getfield 23, 3) := by decide +kernel
theorem dX14_readCall_110 : decode cX14_readCall 110 = .ok (.getfield 226, 3) := by decide +kernel
theorem dX14_readCall_113 : decode cX14_readCall 113 = .ok (.aload 10, 2) := by decide +kernel
theorem dX14_readCall_115 : decode cX14_readCall 115 = .ok (.iload 11, 2) := by decide +kernel
theorem dX14_readCall_117 : decode cX14_readCall 117 = .ok (.iaload, 1) := by decide +kernel
theorem dX14_readCall_118 : decode cX14_readCall 118 = .ok (.iaload, 1) := by decide +kernel
theorem dX14_readCall_119 : decode cX14_readCall 119 = .ok (.goto 5, 3) := by decide +kernel
theorem dX14_readCall_122 : decode cX14_readCall 122 = .ok (.iload 12, 2) := by decide +kernel
theorem dX14_readCall_124 : decode cX14_readCall 124 = .ok (.istore 12, 2) := by decide +kernel
theorem dX14_readCall_126 : decode cX14_readCall 126 = .ok (.iinc 11 1, 3) := by decide +kernel
theorem dX14_readCall_129 : decode cX14_readCall 129 = .ok (.aload_n 0, 1) := by decide +kernel
theorem dX14_readCall_130 : decode cX14_readCall 130 = .ok (.bipush 44, 2) := by decide +kernel
theorem dX14_readCall_132 : decode cX14_readCall 132 = .ok (.invokevirtual 182, 3) := by decide +kernel
theorem dX14_readCall_135 : decode cX14_readCall 135 = .ok (.istore 13, 2) := by decide +kernel
theorem dX14_readCall_137 : decode cX14_readCall 137 = .ok (.iload 13, 2) := by decide +kernel
theorem dX14_readCall_139 : decode cX14_readCall 139 = .ok (.ifCond .ne 6, 3) := by decide +kernel
theorem dX14_readCall_142 : decode cX14_readCall 142 = .ok (.goto (-69), 3) := by decide +kernel
theorem dX14_readCall_145 : decode cX14_readCall 145 = .ok (.aload_n 0, 1) := by decide +kernel
theorem dX14_readCall_146 : decode cX14_readCall 146 = .ok (.invokevirtual 176, 3) := by decide +kernel
theorem dX14_readCall_149 : decode cX14_readCall 149 = .ok (.aload_n 0, 1) := by decide +kernel
theorem dX14_readCall_150 : decode cX14_readCall 150 = .ok (.iload 11, 2) := by decide +kernel
theorem dX14_readCall_152 : decode cX14_readCall 152 = .ok (.aload_n 0, 1) := by decide +kernel
theorem dX14_readCall_153 : decode cX14_readCall 153 = .ok (.getfield 23, 3) := by decide +kernel
theorem dX14_readCall_156 : decode cX14_readCall 156 = .ok (.getfield 324, 3) := by decide +kernel
theorem dX14_readCall_159 : decode cX14_readCall 159 = .ok (.iload_n 2, 1) := by decide +kernel
theorem dX14_readCall_160 : decode cX14_readCall 160 = .ok (.iaload, 1) := by decide +kernel
theorem dX14_readCall_161 : decode cX14_readCall 161 = .ok (.if_icmp .ge 7, 3) := by decide +kernel
theorem dX14_readCall_164 : decode cX14_readCall 164 = .ok (.iconst 1, 1) := by decide +kernel
theorem dX14_readCall_165 : decode cX14_readCall 165 = .ok (.goto 4, 3) := by decide +kernel
theorem dX14_readCall_168 : decode cX14_readCall 168 = .ok (.iconst 0, 1) := by decide +kernel
theorem dX14_readCall_169 : decode cX14_readCall 169 = .ok (.bipush 6, 2) := by decide +kernel
theorem dX14_readCall_171 : decode cX14_readCall 171 = .ok (.aload_n 0, 1) := by decide +kernel
theorem dX14_readCall_172 : decode cX14_readCall 172 = .ok (.getfield 128, 3) := by decide +kernel
theorem dX14_readCall_175 : decode cX14_readCall 175 = .ok (.invokevirtual 172, 3) := by decide +kernel
theorem dX14_readCall_178 : decode cX14_readCall 178 = .ok (.aload_n 0, 1) := by decide +kernel
theorem dX14_readCall_179 : decode cX14_readCall 179 = .ok (.invokevirtual 185, 3) := by decide +kernel
theorem dX14_readCall_182 : decode cX14_readCall 182 = .ok (.goto (-109), 3) := by decide +kernel
theorem dX14_readCall_185 : decode cX14_readCall 185 = .ok (.aload_n 0, 1) := by decide +kernel
theorem dX14_readCall_186 : decode cX14_readCall 186 = .ok (.aload_n 0, 1) := by decide +kernel
theorem dX14_readCall_187 : decode cX14_readCall 187 = .ok (.bipush 41, 2) := by decide +kernel
theorem dX14_readCall_189 : decode cX14_readCall 189 = .ok (.invokevirtual 182, 3) := by decide +kernel
theorem dX14_readCall_192 : decode cX14_readCall 192 = .ok (.iconst 1, 1) := by decide +kernel
theorem dX14_readCall_193 : decode cX14_readCall 193 = .ok (.aload_n 0, 1) := by decide +kernel
theorem dX14_readCall_194 : decode cX14_readCall 194 = .ok (.getfield 128, 3) := by decide +kernel
theorem dX14_readCall_197 : decode cX14_readCall 197 = .ok (.invokevirtual 172, 3) := by decide +kernel
theorem dX14_readCall_200 : decode cX14_readCall 200 = .ok (.aload_n 0, 1) := by decide +kernel
theorem dX14_readCall_201 : decode cX14_readCall 201 = .ok (.invokevirtual 176, 3) := by decide +kernel
theorem dX14_readCall_204 : decode cX14_readCall 204 = .ok (.aload_n 0, 1) := by decide +kernel
theorem dX14_readCall_205 : decode cX14_readCall 205 = .ok (.iload 11, 2) := by decide +kernel
theorem dX14_readCall_207 : decode cX14_readCall 207 = .ok (.aload_n 0, 1) := by decide +kernel
theorem dX14_readCall_208 : decode cX14_readCall 208 = .ok (.getfield 23, 3) := by decide +kernel
theorem dX14_readCall_211 : decode cX14_readCall 211 = .ok (.getfield 324, 3) := by decide +kernel
theorem dX14_readCall_214 : decode cX14_readCall 214 = .ok (.iload_n 2, 1) := by decide +kernel
theorem dX14_readCall_215 : decode cX14_readCall 215 = .ok (.iaload, 1) := by decide +kernel
theorem dX14_readCall_216 : decode cX14_readCall 216 = .ok (.if_icmp .ne 7, 3) := by decide +kernel
theorem dX14_readCall_219 : decode cX14_readCall 219 = .ok (.iconst 1, 1) := by decide +kernel
theorem dX14_readCall_220 : decode cX14_readCall 220 = .ok (.goto 4, 3) := by decide +kernel
theorem dX14_readCall_223 : decode cX14_readCall 223 = .ok (.iconst 0, 1) := by decide +kernel
theorem dX14_readCall_224 : decode cX14_readCall 224 = .ok (.bipush 6, 2) := by decide +kernel
theorem dX14_readCall_226 : decode cX14_readCall 226 = .ok (.aload_n 0, 1) := by decide +kernel
theorem dX14_readCall_227 : decode cX14_readCall 227 = .ok (.getfield 128, 3) := by decide +kernel
theorem dX14_readCall_230 : decode cX14_readCall 230 = .ok (.invokevirtual 172, 3) := by decide +kernel
theorem dX14_readCall_233 : decode cX14_readCall 233 = .ok (.aload_n 0, 1) := by decide +kernel
theorem dX14_readCall_234 : decode cX14_readCall 234 = .ok (.bipush 41, 2) := by decide +kernel
theorem dX14_readCall_236 : decode cX14_readCall 236 = .ok (.invokevirtual 273, 3) := by decide +kernel
theorem dX14_readCall_239 : decode cX14_readCall 239 = .ok (.aload_n 0, 1) := by decide +kernel
theorem dX14_readCall_240 : decode cX14_readCall 240 = .ok (.iload 8, 2) := by decide +kernel
theorem dX14_readCall_242 : decode cX14_readCall 242 = .ok (.ifCond .eq 10, 3) := by decide +kernel
theorem dX14_readCall_245 : decode cX14_readCall 245 = .ok (.iload 12, 2) := by decide +kernel
theorem dX14_readCall_247 : decode cX14_readCall 247 = .ok (.bipush 12, 2) := by decide +kernel
theorem dX14_readCall_249 : decode cX14_readCall 249 = .ok (.if_icmp .ge 7, 3) := by decide +kernel
theorem dX14_readCall_252 : decode cX14_readCall 252 = .ok (.iconst 1, 1) := by decide +kernel
theorem dX14_readCall_253 : decode cX14_readCall 253 = .ok (.goto 4, 3) := by decide +kernel
theorem dX14_readCall_256 : decode cX14_readCall 256 = .ok (.iconst 0, 1) := by decide +kernel
theorem dX14_readCall_257 : decode cX14_readCall 257 = .ok (.bipush 7, 2) := by decide +kernel
theorem dX14_readCall_259 : decode cX14_readCall 259 = .ok (.iload 7, 2) := by decide +kernel
theorem dX14_readCall_261 : decode cX14_readCall 261 = .ok (.invokevirtual 172, 3) := by decide +kernel
theorem dX14_readCall_264 : decode cX14_readCall 264 = .ok (.aload_n 0, 1) := by decide +kernel
theorem dX14_readCall_265 : decode cX14_readCall 265 = .ok (.iload_n 1, 1) := by decide +kernel
theorem dX14_readCall_266 : decode cX14_readCall 266 = .ok (.iconst (-1), 1) := by decide +kernel
theorem dX14_readCall_267 : decode cX14_readCall 267 = .ok (.iconst (-1), 1) := by decide +kernel
theorem dX14_readCall_268 : decode cX14_readCall 268 = .ok (.iconst 1, 1) := by decide +kernel
theorem dX14_readCall_269 : decode cX14_readCall 269 = .ok (.iload 12, 2) := by decide +kernel
theorem dX14_readCall_271 : decode cX14_readCall 271 = .ok (.iadd, 1) := by decide +kernel
theorem dX14_readCall_272 : decode cX14_readCall 272 = .ok (.invokevirtual 256, 3) := by decide +kernel
theorem dX14_readCall_275 : decode cX14_readCall 275 = .ok (.istore 14, 2) := by decide +kernel
theorem dX14_readCall_277 : decode cX14_readCall 277 = .ok (.aload_n 0, 1) := by decide +kernel
theorem dX14_readCall_278 : decode cX14_readCall 278 = .ok (.getfield 23, 3) := by decide +kernel
theorem dX14_readCall_281 : decode cX14_readCall 281 = .ok (.getfield 223, 3) := by decide +kernel
theorem dX14_readCall_284 : decode cX14_readCall 284 = .ok (.iload 14, 2) := by decide +kernel
theorem dX14_readCall_286 : decode cX14_readCall 286 = .ok (.iload_n 2, 1) := by decide +kernel
theorem dX14_readCall_287 : decode cX14_readCall 287 = .ok (.iastore, 1) := by decide +kernel
theorem dX14_readCall_288 : decode cX14_readCall 288 = .ok (.aload_n 0, 1) := by decide +kernel
theorem dX14_readCall_289 : decode cX14_readCall 289 = .ok (.getfield 23, 3) := by decide +kernel
theorem dX14_readCall_292 : decode cX14_readCall 292 = .ok (.getfield 229, 3) := by decide +kernel
theorem dX14_readCall_295 : decode cX14_readCall 295 = .ok (.iload 14, 2) := by decide +kernel
theorem dX14_readCall_297 : decode cX14_readCall 297 = .ok (.iload 11, 2) := by decide +kernel
theorem dX14_readCall_299 : decode cX14_readCall 299 = .ok (.iastore, 1) := by decide +kernel
theorem dX14_readCall_300 : decode cX14_readCall 300 = .ok (.aload_n 0, 1) := by decide +kernel
theorem dX14_readCall_301 : decode cX14_readCall 301 = .ok (.getfield 23, 3) := by decide +kernel
theorem dX14_readCall_304 : decode cX14_readCall 304 = .ok (.getfield 235, 3) := by decide +kernel
theorem dX14_readCall_307 : decode cX14_readCall 307 = .ok (.iload 14, 2) := by decide +kernel
theorem dX14_readCall_309 : decode cX14_readCall 309 = .ok (.lload_n 3, 1) := by decide +kernel
theorem dX14_readCall_310 : decode cX14_readCall 310 = .ok (.lastore, 1) := by decide +kernel
theorem dX14_readCall_311 : decode cX14_readCall 311 = .ok (.aload_n 0, 1) := by decide +kernel
theorem dX14_readCall_312 : decode cX14_readCall 312 = .ok (.getfield 23, 3) := by decide +kernel
theorem dX14_readCall_315 : decode cX14_readCall 315 = .ok (.getfield 238, 3) := by decide +kernel
theorem dX14_readCall_318 : decode cX14_readCall 318 = .ok (.iload 14, 2) := by decide +kernel
theorem dX14_readCall_320 : decode cX14_readCall 320 = .ok (.lload 5, 2) := by decide +kernel
theorem dX14_readCall_322 : decode cX14_readCall 322 = .ok (.lastore, 1) := by decide +kernel
theorem dX14_readCall_323 : decode cX14_readCall 323 = .ok (.iconst 0, 1) := by decide +kernel
theorem dX14_readCall_324 : decode cX14_readCall 324 = .ok (.istore 15, 2) := by decide +kernel
theorem dX14_readCall_326 : decode cX14_readCall 326 = .ok (.iload 15, 2) := by decide +kernel
theorem dX14_readCall_328 : decode cX14_readCall 328 = .ok (.iload 11, 2) := by decide +kernel
theorem dX14_readCall_330 : decode cX14_readCall 330 = .ok (.if_icmp .ge 29, 3) := by decide +kernel
theorem dX14_readCall_333 : decode cX14_readCall 333 = .ok (.aload_n 0, 1) := by decide +kernel
theorem dX14_readCall_334 : decode cX14_readCall 334 = .ok (.getfield 23, 3) := by decide +kernel
theorem dX14_readCall_337 : decode cX14_readCall 337 = .ok (.getfield 327, 3) := by decide +kernel
theorem dX14_readCall_340 : decode cX14_readCall 340 = .ok (.iconst 3, 1) := by decide +kernel
theorem dX14_readCall_341 : decode cX14_readCall 341 = .ok (.iload 14, 2) := by decide +kernel
theorem dX14_readCall_343 : decode cX14_readCall 343 = .ok (.imul, 1) := by decide +kernel
theorem dX14_readCall_344 : decode cX14_readCall 344 = .ok (.iload 15, 2) := by decide +kernel
theorem dX14_readCall_346 : decode cX14_readCall 346 = .ok (.iadd, 1) := by decide +kernel
theorem dX14_readCall_347 : decode cX14_readCall 347 = .ok (.aload 10, 2) := by decide +kernel
theorem dX14_readCall_349 : decode cX14_readCall 349 = .ok (.iload 15, 2) := by decide +kernel
theorem dX14_readCall_351 : decode cX14_readCall 351 = .ok (.iaload, 1) := by decide +kernel
theorem dX14_readCall_352 : decode cX14_readCall 352 = .ok (.iastore, 1) := by decide +kernel
theorem dX14_readCall_353 : decode cX14_readCall 353 = .ok (.iinc 15 1, 3) := by decide +kernel
theorem dX14_readCall_356 : decode cX14_readCall 356 = .ok (.goto (-30), 3) := by decide +kernel
theorem dX14_readCall_359 : decode cX14_readCall 359 = .ok (.iload 14, 2) := by decide +kernel
theorem dX14_readCall_361 : decode cX14_readCall 361 = .ok (.ireturn, 1) := by decide +kernel
