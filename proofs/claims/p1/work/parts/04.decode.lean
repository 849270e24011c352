theorem dX3_wipe_0 : decode cX3_wipe 0 = .ok (.aload_n 0, 1) := by decide +kernel
theorem dX3_wipe_1 : decode cX3_wipe 1 = .ok (.iconst 0, 1) := by decide +kernel
theorem dX3_wipe_2 : decode cX3_wipe 2 = .ok (.putfield 28, 3) := by decide +kernel
theorem dX3_wipe_5 : decode cX3_wipe 5 = .ok (.aload_n 0, 1) := by decide +kernel
theorem dX3_wipe_6 : decode cX3_wipe 6 = .ok (.iconst 0, 1) := by decide +kernel
theorem dX3_wipe_7 : decode cX3_wipe 7 = .ok (.putfield 32, 3) := by decide +kernel
theorem dX3_wipe_10 : decode cX3_wipe 10 = .ok (.return_, 1) := by decide +kernel
theorem dX3_mayTake_0 : decode cX3_mayTake 0 = .ok (.iload_n 2, 1) := by decide +kernel
theorem dX3_mayTake_1 : decode cX3_mayTake 1 = .ok (.ifCond .lt 25, 3) := by decide +kernel
theorem dX3_mayTake_4 : decode cX3_mayTake 4 = .ok (.iload_n 2, 1) := by decide +kernel
theorem dX3_mayTake_5 : decode cX3_mayTake 5 = .ok (.aload_n 0, 1) := by decide +kernel
theorem dX3_mayTake_6 : decode cX3_mayTake 6 = .ok (.getfield 32, 3) := by decide +kernel
theorem dX3_mayTake_9 : decode cX3_mayTake 9 = .ok (.if_icmp .ge 17, 3) := by decide +kernel
theorem dX3_mayTake_12 : decode cX3_mayTake 12 = .ok (.aload_n 1, 1) := by decide +kernel
theorem dX3_mayTake_13 : decode cX3_mayTake 13 = .ok (.aload_n 0, 1) := by decide +kernel
theorem dX3_mayTake_14 : decode cX3_mayTake 14 = .ok (.getfield 25, 3) := by decide +kernel
theorem dX3_mayTake_17 : decode cX3_mayTake 17 = .ok (.iload_n 2, 1) := by decide +kernel
theorem dX3_mayTake_18 : decode cX3_mayTake 18 = .ok (.iaload, 1) := by decide +kernel
theorem dX3_mayTake_19 : decode cX3_mayTake 19 = .ok (.iload_n 3, 1) := by decide +kernel
theorem dX3_mayTake_20 : decode cX3_mayTake 20 = .ok (.invokevirtual 35, 3) := by decide +kernel
theorem dX3_mayTake_23 : decode cX3_mayTake 23 = .ok (.ifCond .ne 5, 3) := by decide +kernel
theorem dX3_mayTake_26 : decode cX3_mayTake 26 = .ok (.iconst 0, 1) := by decide +kernel
theorem dX3_mayTake_27 : decode cX3_mayTake 27 = .ok (.ireturn, 1) := by decide +kernel
theorem dX3_mayTake_28 : decode cX3_mayTake 28 = .ok (.aload_n 0, 1) := by decide +kernel
theorem dX3_mayTake_29 : decode cX3_mayTake 29 = .ok (.aload_n 1, 1) := by decide +kernel
theorem dX3_mayTake_30 : decode cX3_mayTake 30 = .ok (.iload_n 2, 1) := by decide +kernel
theorem dX3_mayTake_31 : decode cX3_mayTake 31 = .ok (.iload_n 3, 1) := by decide +kernel
theorem dX3_mayTake_32 : decode cX3_mayTake 32 = .ok (.invokevirtual 41, 3) := by decide +kernel
theorem dX3_mayTake_35 : decode cX3_mayTake 35 = .ok (.astore 7, 2) := by decide +kernel
theorem dX3_mayTake_37 : decode cX3_mayTake 37 = .ok (.aload 7, 2) := by decide +kernel
theorem dX3_mayTake_39 : decode cX3_mayTake 39 = .ok (.iconst 0, 1) := by decide +kernel
theorem dX3_mayTake_40 : decode cX3_mayTake 40 = .ok (.iload 4, 2) := by decide +kernel
theorem dX3_mayTake_42 : decode cX3_mayTake 42 = .ok (.invokevirtual 45, 3) := by decide +kernel
theorem dX3_mayTake_45 : decode cX3_mayTake 45 = .ok (.ifCond .eq 29, 3) := by decide +kernel
theorem dX3_mayTake_48 : decode cX3_mayTake 48 = .ok (.aload 7, 2) := by decide +kernel
theorem dX3_mayTake_50 : decode cX3_mayTake 50 = .ok (.iconst 1, 1) := by decide +kernel
theorem dX3_mayTake_51 : decode cX3_mayTake 51 = .ok (.iload 5, 2) := by decide +kernel
theorem dX3_mayTake_53 : decode cX3_mayTake 53 = .ok (.invokevirtual 45, 3) := by decide +kernel
theorem dX3_mayTake_56 : decode cX3_mayTake 56 = .ok (.ifCond .eq 18, 3) := by decide +kernel
theorem dX3_mayTake_59 : decode cX3_mayTake 59 = .ok (.aload 7, 2) := by decide +kernel
theorem dX3_mayTake_61 : decode cX3_mayTake 61 = .ok (.iconst 2, 1) := by decide +kernel
theorem dX3_mayTake_62 : decode cX3_mayTake 62 = .ok (.iload 6, 2) := by decide +kernel
theorem dX3_mayTake_64 : decode cX3_mayTake 64 = .ok (.invokevirtual 45, 3) := by decide +kernel
theorem dX3_mayTake_67 : decode cX3_mayTake 67 = .ok (.ifCond .eq 7, 3) := by decide +kernel
theorem dX3_mayTake_70 : decode cX3_mayTake 70 = .ok (.iconst 1, 1) := by decide +kernel
theorem dX3_mayTake_71 : decode cX3_mayTake 71 = .ok (.goto 4, 3) := by decide +kernel
theorem dX3_mayTake_74 : decode cX3_mayTake 74 = .ok (.iconst 0, 1) := by decide +kernel
theorem dX3_mayTake_75 : decode cX3_mayTake 75 = .ok (.ireturn, 1) := by decide +kernel
theorem dX6_init_0 : decode cX6_init 0 = .ok (.aload_n 0, 1) := by decide +kernel
theorem dX6_init_1 : decode cX6_init 1 = .ok (.invokespecial 1, 3) := by decide +kernel
theorem dX6_init_4 : decode cX6_init 4 = .ok (.aload_n 0, 1) := by decide +kernel
theorem dX6_init_5 : decode cX6_init 5 = .ok (.iconst 3, 1) := by decide +kernel
theorem dX6_init_6 : decode cX6_init 6 = .ok (.newarray .int, 2) := by decide +kernel
theorem dX6_init_8 : decode cX6_init 8 = .ok (.putfield 9, 3) := by decide +kernel
theorem dX6_init_11 : decode cX6_init 11 = .ok (.aload_n 0, 1) := by decide +kernel
theorem dX6_init_12 : decode cX6_init 12 = .ok (.iconst 3, 1) := by decide +kernel
theorem dX6_init_13 : decode cX6_init 13 = .ok (.newarray .int, 2) := by decide +kernel
theorem dX6_init_15 : decode cX6_init 15 = .ok (.putfield 13, 3) := by decide +kernel
theorem dX6_init_18 : decode cX6_init 18 = .ok (.return_, 1) := by decide +kernel
theorem dX7_init_0 : decode cX7_init 0 = .ok (.aload_n 0, 1) := by decide +kernel
theorem dX7_init_1 : decode cX7_init 1 = .ok (.invokespecial 3, 3) := by decide +kernel
theorem dX7_init_4 : decode cX7_init 4 = .ok (.aload_n 0, 1) := by decide +kernel
theorem dX7_init_5 : decode cX7_init 5 = .ok (.bipush 8, 2) := by decide +kernel
theorem dX7_init_7 : decode cX7_init 7 = .ok (.anewarray 11, 3) := by decide +kernel
theorem dX7_init_10 : decode cX7_init 10 = .ok (.putfield 13, 3) := by decide +kernel
theorem dX7_init_13 : decode cX7_init 13 = .ok (.iconst 0, 1) := by decide +kernel
theorem dX7_init_14 : decode cX7_init 14 = .ok (.istore_n 1, 1) := by decide +kernel
theorem dX7_init_15 : decode cX7_init 15 = .ok (.iload_n 1, 1) := by decide +kernel
theorem dX7_init_16 : decode cX7_init 16 = .ok (.bipush 8, 2) := by decide +kernel
theorem dX7_init_18 : decode cX7_init 18 = .ok (.if_icmp .ge 22, 3) := by decide +kernel
theorem dX7_init_21 : decode cX7_init 21 = .ok (.aload_n 0, 1) := by decide +kernel
theorem dX7_init_22 : decode cX7_init 22 = .ok (.getfield 13, 3) := by decide +kernel
theorem dX7_init_25 : decode cX7_init 25 = .ok (.iload_n 1, 1) := by decide +kernel
theorem dX7_init_26 : decode cX7_init 26 = .ok (.new 11, 3) := by decide +kernel
theorem dX7_init_29 : decode cX7_init 29 = .ok (.dup, 1) := by decide +kernel
theorem dX7_init_30 : decode cX7_init 30 = .ok (.invokespecial 17, 3) := by decide +kernel
theorem dX7_init_33 : decode cX7_init 33 = .ok (.aastore, 1) := by decide +kernel
theorem dX7_init_34 : decode cX7_init 34 = .ok (.iinc 1 1, 3) := by decide +kernel
theorem dX7_init_37 : decode cX7_init 37 = .ok (.goto (-22), 3) := by decide +kernel
theorem dX7_init_40 : decode cX7_init 40 = .ok (.aload_n 0, 1) := by decide +kernel
theorem dX7_init_41 : decode cX7_init 41 = .ok (.bipush 96, 2) := by decide +kernel
theorem dX7_init_43 : decode cX7_init 43 = .ok (.anewarray 18, 3) := by decide +kernel
theorem dX7_init_46 : decode cX7_init 46 = .ok (.putfield 20, 3) := by decide +kernel
theorem dX7_init_49 : decode cX7_init 49 = .ok (.iconst 0, 1) := by decide +kernel
theorem dX7_init_50 : decode cX7_init 50 = .ok (.istore_n 1, 1) := by decide +kernel
theorem dX7_init_51 : decode cX7_init 51 = .ok (.iload_n 1, 1) := by decide +kernel
theorem dX7_init_52 : decode cX7_init 52 = .ok (.bipush 96, 2) := by decide +kernel
theorem dX7_init_54 : decode cX7_init 54 = .ok (.if_icmp .ge 22, 3) := by decide +kernel
theorem dX7_init_57 : decode cX7_init 57 = .ok (.aload_n 0, 1) := by decide +kernel
theorem dX7_init_58 : decode cX7_init 58 = .ok (.getfield 20, 3) := by decide +kernel
theorem dX7_init_61 : decode cX7_init 61 = .ok (.iload_n 1, 1) := by decide +kernel
theorem dX7_init_62 : decode cX7_init 62 = .ok (.new 18, 3) := by decide +kernel
theorem dX7_init_65 : decode cX7_init 65 = .ok (.dup, 1) := by decide +kernel
theorem dX7_init_66 : decode cX7_init 66 = .ok (.invokespecial 24, 3) := by decide +kernel
theorem dX7_init_69 : decode cX7_init 69 = .ok (.aastore, 1) := by decide +kernel
theorem dX7_init_70 : decode cX7_init 70 = .ok (.iinc 1 1, 3) := by decide +kernel
theorem dX7_init_73 : decode cX7_init 73 = .ok (.goto (-22), 3) := by decide +kernel
theorem dX7_init_76 : decode cX7_init 76 = .ok (.aload_n 0, 1) := by decide +kernel
theorem dX7_init_77 : decode cX7_init 77 = .ok (.sipush 2000, 3) := by decide +kernel
theorem dX7_init_80 : decode cX7_init 80 = .ok (.newarray .int, 2) := by decide +kernel
theorem dX7_init_82 : decode cX7_init 82 = .ok (.putfield 25, 3) := by decide +kernel
theorem dX7_init_85 : decode cX7_init 85 = .ok (.aload_n 0, 1) := by decide +kernel
theorem dX7_init_86 : decode cX7_init 86 = .ok (.sipush 2000, 3) := by decide +kernel
theorem dX7_init_89 : decode cX7_init 89 = .ok (.newarray .int, 2) := by decide +kernel
theorem dX7_init_91 : decode cX7_init 91 = .ok (.putfield 29, 3) := by decide +kernel
theorem dX7_init_94 : decode cX7_init 94 = .ok (.aload_n 0, 1) := by decide +kernel
theorem dX7_init_95 : decode cX7_init 95 = .ok (.sipush 500, 3) := by decide +kernel
theorem dX7_init_98 : decode cX7_init 98 = .ok (.newarray .int, 2) := by decide +kernel
theorem dX7_init_100 : decode cX7_init 100 = .ok (.putfield 32, 3) := by decide +kernel
theorem dX7_init_103 : decode cX7_init 103 = .ok (.aload_n 0, 1) := by decide +kernel
theorem dX7_init_104 : decode cX7_init 104 = .ok (.sipush 500, 3) := by decide +kernel
theorem dX7_init_107 : decode cX7_init 107 = .ok (.newarray .int, 2) := by decide +kernel
theorem dX7_init_109 : decode cX7_init 109 = .ok (.putfield 35, 3) := by decide +kernel
theorem dX7_init_112 : decode cX7_init 112 = .ok (.aload_n 0, 1) := by decide +kernel
theorem dX7_init_113 : decode cX7_init 113 = .ok (.sipush 500, 3) := by decide +kernel
theorem dX7_init_116 : decode cX7_init 116 = .ok (.newarray .int, 2) := by decide +kernel
theorem dX7_init_118 : decode cX7_init 118 = .ok (.putfield 38, 3) := by decide +kernel
theorem dX7_init_121 : decode cX7_init 121 = .ok (.aload_n 0, 1) := by decide +kernel
theorem dX7_init_122 : decode cX7_init 122 = .ok (.sipush 500, 3) := by decide +kernel
theorem dX7_init_125 : decode cX7_init 125 = .ok (.newarray .int, 2) := by decide +kernel
theorem dX7_init_127 : decode cX7_init 127 = .ok (.putfield 41, 3) := by decide +kernel
theorem dX7_init_130 : decode cX7_init 130 = .ok (.aload_n 0, 1) := by decide +kernel
theorem dX7_init_131 : decode cX7_init 131 = .ok (.sipush 500, 3) := by decide +kernel
theorem dX7_init_134 : decode cX7_init 134 = .ok (.newarray .int, 2) := by decide +kernel
theorem dX7_init_136 : decode cX7_init 136 = .ok (.putfield 44, 3) := by decide +kernel
theorem dX7_init_139 : decode cX7_init 139 = .ok (.aload_n 0, 1) := by decide +kernel
theorem dX7_init_140 : decode cX7_init 140 = .ok (.sipush 500, 3) := by decide +kernel
theorem dX7_init_143 : decode cX7_init 143 = .ok (.newarray .long, 2) := by decide +kernel
theorem dX7_init_145 : decode cX7_init 145 = .ok (.putfield 47, 3) := by decide +kernel
theorem dX7_init_148 : decode cX7_init 148 = .ok (.aload_n 0, 1) := by decide +kernel
theorem dX7_init_149 : decode cX7_init 149 = .ok (.sipush 420, 3) := by decide +kernel
theorem dX7_init_152 : decode cX7_init 152 = .ok (.newarray .boolean, 2) := by decide +kernel
theorem dX7_init_154 : decode cX7_init 154 = .ok (.putfield 51, 3) := by decide +kernel
theorem dX7_init_157 : decode cX7_init 157 = .ok (.aload_n 0, 1) := by decide +kernel
theorem dX7_init_158 : decode cX7_init 158 = .ok (.sipush 420, 3) := by decide +kernel
theorem dX7_init_161 : decode cX7_init 161 = .ok (.newarray .long, 2) := by decide +kernel
theorem dX7_init_163 : decode cX7_init 163 = .ok (.putfield 55, 3) := by decide +kernel
theorem dX7_init_166 : decode cX7_init 166 = .ok (.return_, 1) := by decide +kernel
theorem dX7_hasClass_0 : decode cX7_hasClass 0 = .ok (.iload_n 1, 1) := by decide +kernel
theorem dX7_hasClass_1 : decode cX7_hasClass 1 = .ok (.ifCond .lt 15, 3) := by decide +kernel
theorem dX7_hasClass_4 : decode cX7_hasClass 4 = .ok (.iload_n 1, 1) := by decide +kernel
theorem dX7_hasClass_5 : decode cX7_hasClass 5 = .ok (.aload_n 0, 1) := by decide +kernel
theorem dX7_hasClass_6 : decode cX7_hasClass 6 = .ok (.getfield 58, 3) := by decide +kernel
theorem dX7_hasClass_9 : decode cX7_hasClass 9 = .ok (.if_icmp .ge 7, 3) := by decide +kernel
theorem dX7_hasClass_12 : decode cX7_hasClass 12 = .ok (.iconst 1, 1) := by decide +kernel
theorem dX7_hasClass_13 : decode cX7_hasClass 13 = .ok (.goto 4, 3) := by decide +kernel
theorem dX7_hasClass_16 : decode cX7_hasClass 16 = .ok (.iconst 0, 1) := by decide +kernel
theorem dX7_hasClass_17 : decode cX7_hasClass 17 = .ok (.ireturn, 1) := by decide +kernel
theorem dX7_hasMember_0 : decode cX7_hasMember 0 = .ok (.aload_n 0, 1) := by decide +kernel
theorem dX7_hasMember_1 : decode cX7_hasMember 1 = .ok (.iload_n 1, 1) := by decide +kernel
theorem dX7_hasMember_2 : decode cX7_hasMember 2 = .ok (.invokevirtual 80, 3) := by decide +kernel
theorem dX7_hasMember_5 : decode cX7_hasMember 5 = .ok (.ifCond .eq 24, 3) := by decide +kernel
theorem dX7_hasMember_8 : decode cX7_hasMember 8 = .ok (.iload_n 2, 1) := by decide +kernel
theorem dX7_hasMember_9 : decode cX7_hasMember 9 = .ok (.ifCond .lt 20, 3) := by decide +kernel
theorem dX7_hasMember_12 : decode cX7_hasMember 12 = .ok (.iload_n 2, 1) := by decide +kernel
theorem dX7_hasMember_13 : decode cX7_hasMember 13 = .ok (.aload_n 0, 1) := by decide +kernel
theorem dX7_hasMember_14 : decode cX7_hasMember 14 = .ok (.getfield 13, 3) := by decide +kernel
theorem dX7_hasMember_17 : decode cX7_hasMember 17 = .ok (.iload_n 1, 1) := by decide +kernel
theorem dX7_hasMember_18 : decode cX7_hasMember 18 = .ok (.aaload, 1) := by decide +kernel
theorem dX7_hasMember_19 : decode cX7_hasMember 19 = .ok (.getfield 84, 3) := by decide +kernel
theorem dX7_hasMember_22 : decode cX7_hasMember 22 = .ok (.if_icmp .ge 7, 3) := by decide +kernel
theorem dX7_hasMember_25 : decode cX7_hasMember 25 = .ok (.iconst 1, 1) := by decide +kernel
theorem dX7_hasMember_26 : decode cX7_hasMember 26 = .ok (.goto 4, 3) := by decide +kernel
theorem dX7_hasMember_29 : decode cX7_hasMember 29 = .ok (.iconst 0, 1) := by decide +kernel
theorem dX7_hasMember_30 : decode cX7_hasMember 30 = .ok (.ireturn, 1) := by decide +kernel
theorem dX8_letterOf_0 : decode cX8_letterOf 0 = .ok (.iconst 0, 1) := by decide +kernel
theorem dX8_letterOf_1 : decode cX8_letterOf 1 = .ok (.istore_n 3, 1) := by decide +kernel
theorem dX8_letterOf_2 : decode cX8_letterOf 2 = .ok (.lload_n 0, 1) := by decide +kernel
theorem dX8_letterOf_3 : decode cX8_letterOf 3 = .ok (.lstore 4, 2) := by decide +kernel
theorem dX8_letterOf_5 : decode cX8_letterOf 5 = .ok (.lload 4, 2) := by decide +kernel
theorem dX8_letterOf_7 : decode cX8_letterOf 7 = .ok (.lconst 0, 1) := by decide +kernel
theorem dX8_letterOf_8 : decode cX8_letterOf 8 = .ok (.lcmp, 1) := by decide +kernel
theorem dX8_letterOf_9 : decode cX8_letterOf 9 = .ok (.ifCond .le 23, 3) := by decide +kernel
theorem dX8_letterOf_12 : decode cX8_letterOf 12 = .ok (.iload_n 3, 1) := by decide +kernel
theorem dX8_letterOf_13 : decode cX8_letterOf 13 = .ok (.bipush 12, 2) := by decide +kernel
theorem dX8_letterOf_15 : decode cX8_letterOf 15 = .ok (.if_icmp .ge 17, 3) := by decide +kernel
theorem dX8_letterOf_18 : decode cX8_letterOf 18 = .ok (.iinc 3 1, 3) := by decide +kernel
theorem dX8_letterOf_21 : decode cX8_letterOf 21 = .ok (.lload 4, 2) := by decide +kernel
theorem dX8_letterOf_23 : decode cX8_letterOf 23 = .ok (.ldc2_w 55, 3) := by decide +kernel
theorem dX8_letterOf_26 : decode cX8_letterOf 26 = .ok (.ldiv, 1) := by decide +kernel
theorem dX8_letterOf_27 : decode cX8_letterOf 27 = .ok (.lstore 4, 2) := by decide +kernel
theorem dX8_letterOf_29 : decode cX8_letterOf 29 = .ok (.goto (-24), 3) := by decide +kernel
theorem dX8_letterOf_32 : decode cX8_letterOf 32 = .ok (.iload_n 2, 1) := by decide +kernel
theorem dX8_letterOf_33 : decode cX8_letterOf 33 = .ok (.ifCond .lt 8, 3) := by decide +kernel
theorem dX8_letterOf_36 : decode cX8_letterOf 36 = .ok (.iload_n 2, 1) := by decide +kernel
theorem dX8_letterOf_37 : decode cX8_letterOf 37 = .ok (.iload_n 3, 1) := by decide +kernel
theorem dX8_letterOf_38 : decode cX8_letterOf 38 = .ok (.if_icmp .lt 5, 3) := by decide +kernel
theorem dX8_letterOf_41 : decode cX8_letterOf 41 = .ok (.iconst (-1), 1) := by decide +kernel
theorem dX8_letterOf_42 : decode cX8_letterOf 42 = .ok (.ireturn, 1) := by decide +kernel
theorem dX8_letterOf_43 : decode cX8_letterOf 43 = .ok (.lload_n 0, 1) := by decide +kernel
theorem dX8_letterOf_44 : decode cX8_letterOf 44 = .ok (.lstore 4, 2) := by decide +kernel
theorem dX8_letterOf_46 : decode cX8_letterOf 46 = .ok (.iload_n 3, 1) := by decide +kernel
theorem dX8_letterOf_47 : decode cX8_letterOf 47 = .ok (.iconst 1, 1) := by decide +kernel
theorem dX8_letterOf_48 : decode cX8_letterOf 48 = .ok (.isub, 1) := by decide +kernel
theorem dX8_letterOf_49 : decode cX8_letterOf 49 = .ok (.istore 6, 2) := by decide +kernel
theorem dX8_letterOf_51 : decode cX8_letterOf 51 = .ok (.iload 6, 2) := by decide +kernel
theorem dX8_letterOf_53 : decode cX8_letterOf 53 = .ok (.iload_n 2, 1) := by decide +kernel
theorem dX8_letterOf_54 : decode cX8_letterOf 54 = .ok (.if_icmp .le 17, 3) := by decide +kernel
theorem dX8_letterOf_57 : decode cX8_letterOf 57 = .ok (.lload 4, 2) := by decide +kernel
theorem dX8_letterOf_59 : decode cX8_letterOf 59 = .ok (.ldc2_w 55, 3) := by decide +kernel
theorem dX8_letterOf_62 : decode cX8_letterOf 62 = .ok (.ldiv, 1) := by decide +kernel
theorem dX8_letterOf_63 : decode cX8_letterOf 63 = .ok (.lstore 4, 2) := by decide +kernel
theorem dX8_letterOf_65 : decode cX8_letterOf 65 = .ok (.iinc 6 (-1), 3) := by decide +kernel
theorem dX8_letterOf_68 : decode cX8_letterOf 68 = .ok (.goto (-17), 3) := by decide +kernel
theorem dX8_letterOf_71 : decode cX8_letterOf 71 = .ok (.lload 4, 2) := by decide +kernel
theorem dX8_letterOf_73 : decode cX8_letterOf 73 = .ok (.ldc2_w 55, 3) := by decide +kernel
theorem dX8_letterOf_76 : decode cX8_letterOf 76 = .ok (.lrem, 1) := by decide +kernel
theorem dX8_letterOf_77 : decode cX8_letterOf 77 = .ok (.l2i, 1) := by decide +kernel
theorem dX8_letterOf_78 : decode cX8_letterOf 78 = .ok (.istore 6, 2) := by decide +kernel
theorem dX8_letterOf_80 : decode cX8_letterOf 80 = .ok (.iload 6, 2) := by decide +kernel
theorem dX8_letterOf_82 : decode cX8_letterOf 82 = .ok (.bipush 37, 2) := by decide +kernel
theorem dX8_letterOf_84 : decode cX8_letterOf 84 = .ok (.if_icmp .ne 6, 3) := by decide +kernel
theorem dX8_letterOf_87 : decode cX8_letterOf 87 = .ok (.bipush 95, 2) := by decide +kernel
theorem dX8_letterOf_89 : decode cX8_letterOf 89 = .ok (.ireturn, 1) := by decide +kernel
theorem dX8_letterOf_90 : decode cX8_letterOf 90 = .ok (.iload 6, 2) := by decide +kernel
theorem dX8_letterOf_92 : decode cX8_letterOf 92 = .ok (.bipush 26, 2) := by decide +kernel
theorem dX8_letterOf_94 : decode cX8_letterOf 94 = .ok (.if_icmp .le 14, 3) := by decide +kernel
theorem dX8_letterOf_97 : decode cX8_letterOf 97 = .ok (.bipush 48, 2) := by decide +kernel
theorem dX8_letterOf_99 : decode cX8_letterOf 99 = .ok (.iload 6, 2) := by decide +kernel
theorem dX8_letterOf_101 : decode cX8_letterOf 101 = .ok (.iadd, 1) := by decide +kernel
theorem dX8_letterOf_102 : decode cX8_letterOf 102 = .ok (.bipush 27, 2) := by decide +kernel
theorem dX8_letterOf_104 : decode cX8_letterOf 104 = .ok (.isub, 1) := by decide +kernel
theorem dX8_letterOf_105 : decode cX8_letterOf 105 = .ok (.goto 10, 3) := by decide +kernel
theorem dX8_letterOf_108 : decode cX8_letterOf 108 = .ok (.bipush 97, 2) := by decide +kernel
theorem dX8_letterOf_110 : decode cX8_letterOf 110 = .ok (.iload 6, 2) := by decide +kernel
theorem dX8_letterOf_112 : decode cX8_letterOf 112 = .ok (.iadd, 1) := by decide +kernel
theorem dX8_letterOf_113 : decode cX8_letterOf 113 = .ok (.iconst 1, 1) := by decide +kernel
theorem dX8_letterOf_114 : decode cX8_letterOf 114 = .ok (.isub, 1) := by decide +kernel
theorem dX8_letterOf_115 : decode cX8_letterOf 115 = .ok (.ireturn, 1) := by decide +kernel
theorem dX9_init_0 : decode cX9_init 0 = .ok (.aload_n 0, 1) := by decide +kernel
theorem dX9_init_1 : decode cX9_init 1 = .ok (.invokespecial 3, 3) := by decide +kernel
theorem dX9_init_4 : decode cX9_init 4 = .ok (.aload_n 0, 1) := by decide +kernel
theorem dX9_init_5 : decode cX9_init 5 = .ok (.bipush 10, 2) := by decide +kernel
theorem dX9_init_7 : decode cX9_init 7 = .ok (.newarray .long, 2) := by decide +kernel
theorem dX9_init_9 : decode cX9_init 9 = .ok (.putfield 11, 3) := by decide +kernel
theorem dX9_init_12 : decode cX9_init 12 = .ok (.aload_n 0, 1) := by decide +kernel
theorem dX9_init_13 : decode cX9_init 13 = .ok (.bipush 10, 2) := by decide +kernel
theorem dX9_init_15 : decode cX9_init 15 = .ok (.newarray .int, 2) := by decide +kernel
theorem dX9_init_17 : decode cX9_init 17 = .ok (.putfield 15, 3) := by decide +kernel
theorem dX9_init_20 : decode cX9_init 20 = .ok (.aload_n 0, 1) := by decide +kernel
theorem dX9_init_21 : decode cX9_init 21 = .ok (.bipush 10, 2) := by decide +kernel
theorem dX9_init_23 : decode cX9_init 23 = .ok (.newarray .int, 2) := by decide +kernel
theorem dX9_init_25 : decode cX9_init 25 = .ok (.putfield 19, 3) := by decide +kernel
theorem dX9_init_28 : decode cX9_init 28 = .ok (.aload_n 0, 1) := by decide +kernel
theorem dX9_init_29 : decode cX9_init 29 = .ok (.bipush 10, 2) := by decide +kernel
theorem dX9_init_31 : decode cX9_init 31 = .ok (.newarray .int, 2) := by decide +kernel
theorem dX9_init_33 : decode cX9_init 33 = .ok (.putfield 22, 3) := by decide +kernel
theorem dX9_init_36 : decode cX9_init 36 = .ok (.aload_n 0, 1) := by decide +kernel
theorem dX9_init_37 : decode cX9_init 37 = .ok (.bipush 12, 2) := by decide +kernel
theorem dX9_init_39 : decode cX9_init 39 = .ok (.newarray .int, 2) := by decide +kernel
theorem dX9_init_41 : decode cX9_init 41 = .ok (.putfield 25, 3) := by decide +kernel
theorem dX9_init_44 : decode cX9_init 44 = .ok (.return_, 1) := by decide +kernel
theorem dX10_emptyRow_0 : decode cX10_emptyRow 0 = .ok (.aload_n 0, 1) := by decide +kernel
theorem dX10_emptyRow_1 : decode cX10_emptyRow 1 = .ok (.getfield 25, 3) := by decide +kernel
theorem dX10_emptyRow_4 : decode cX10_emptyRow 4 = .ok (.invokevirtual 42, 3) := by decide +kernel
theorem dX10_emptyRow_7 : decode cX10_emptyRow 7 = .ok (.aload_n 0, 1) := by decide +kernel
theorem dX10_emptyRow_8 : decode cX10_emptyRow 8 = .ok (.iconst 0, 1) := by decide +kernel
theorem dX10_emptyRow_9 : decode cX10_emptyRow 9 = .ok (.putfield 53, 3) := by decide +kernel
theorem dX10_emptyRow_12 : decode cX10_emptyRow 12 = .ok (.return_, 1) := by decide +kernel
theorem dX11_feed_0 : decode cX11_feed 0 = .ok (.aload_n 0, 1) := by decide +kernel
theorem dX11_feed_1 : decode cX11_feed 1 = .ok (.getfield 13, 3) := by decide +kernel
theorem dX11_feed_4 : decode cX11_feed 4 = .ok (.bipush 20, 2) := by decide +kernel
theorem dX11_feed_6 : decode cX11_feed 6 = .ok (.iadd, 1) := by decide +kernel
theorem dX11_feed_7 : decode cX11_feed 7 = .ok (.sipush 4000, 3) := by decide +kernel
theorem dX11_feed_10 : decode cX11_feed 10 = .ok (.if_icmp .le 6, 3) := by decide +kernel
theorem dX11_feed_13 : decode cX11_feed 13 = .ok (.bipush (-3), 2) := by decide +kernel
theorem dX11_feed_15 : decode cX11_feed 15 = .ok (.ireturn, 1) := by decide +kernel
theorem dX11_feed_16 : decode cX11_feed 16 = .ok (.aload_n 0, 1) := by decide +kernel
theorem dX11_feed_17 : decode cX11_feed 17 = .ok (.iload_n 1, 1) := by decide +kernel
theorem dX11_feed_18 : decode cX11_feed 18 = .ok (.invokevirtual 49, 3) := by decide +kernel
theorem dX11_feed_21 : decode cX11_feed 21 = .ok (.aload_n 0, 1) := by decide +kernel
theorem dX11_feed_22 : decode cX11_feed 22 = .ok (.iload_n 2, 1) := by decide +kernel
theorem dX11_feed_23 : decode cX11_feed 23 = .ok (.invokevirtual 49, 3) := by decide +kernel
theorem dX11_feed_26 : decode cX11_feed 26 = .ok (.aload_n 0, 1) := by decide +kernel
theorem dX11_feed_27 : decode cX11_feed 27 = .ok (.iload_n 3, 1) := by decide +kernel
theorem dX11_feed_28 : decode cX11_feed 28 = .ok (.invokevirtual 49, 3) := by decide +kernel
theorem dX11_feed_31 : decode cX11_feed 31 = .ok (.aload_n 0, 1) := by decide +kernel
theorem dX11_feed_32 : decode cX11_feed 32 = .ok (.iload 4, 2) := by decide +kernel
theorem dX11_feed_34 : decode cX11_feed 34 = .ok (.invokevirtual 49, 3) := by decide +kernel
theorem dX11_feed_37 : decode cX11_feed 37 = .ok (.aload_n 0, 1) := by decide +kernel
theorem dX11_feed_38 : decode cX11_feed 38 = .ok (.iload 5, 2) := by decide +kernel
theorem dX11_feed_40 : decode cX11_feed 40 = .ok (.invokevirtual 49, 3) := by decide +kernel
theorem dX11_feed_43 : decode cX11_feed 43 = .ok (.aload_n 0, 1) := by decide +kernel
theorem dX11_feed_44 : decode cX11_feed 44 = .ok (.getfield 13, 3) := by decide +kernel
theorem dX11_feed_47 : decode cX11_feed 47 = .ok (.ireturn, 1) := by decide +kernel
theorem dX11_putBytes_0 : decode cX11_putBytes 0 = .ok (.bipush 24, 2) := by decide +kernel
theorem dX11_putBytes_2 : decode cX11_putBytes 2 = .ok (.istore_n 2, 1) := by decide +kernel
theorem dX11_putBytes_3 : decode cX11_putBytes 3 = .ok (.iload_n 2, 1) := by decide +kernel
theorem dX11_putBytes_4 : decode cX11_putBytes 4 = .ok (.ifCond .lt 42, 3) := by decide +kernel
theorem dX11_putBytes_7 : decode cX11_putBytes 7 = .ok (.aload_n 0, 1) := by decide +kernel
theorem dX11_putBytes_8 : decode cX11_putBytes 8 = .ok (.getfield 13, 3) := by decide +kernel
theorem dX11_putBytes_11 : decode cX11_putBytes 11 = .ok (.sipush 4000, 3) := by decide +kernel
theorem dX11_putBytes_14 : decode cX11_putBytes 14 = .ok (.if_icmp .ge 32, 3) := by decide +kernel
theorem dX11_putBytes_17 : decode cX11_putBytes 17 = .ok (.aload_n 0, 1) := by decide +kernel
theorem dX11_putBytes_18 : decode cX11_putBytes 18 = .ok (.getfield 9, 3) := by decide +kernel
theorem dX11_putBytes_21 : decode cX11_putBytes 21 = .ok (.aload_n 0, 1) := by decide +kernel
theorem dX11_putBytes_22 : decode cX11_putBytes 22 = .ok (.getfield 13, 3) := by decide +kernel
theorem dX11_putBytes_25 : decode cX11_putBytes 25 = .ok (.iload_n 1, 1) := by decide +kernel
theorem dX11_putBytes_26 : decode cX11_putBytes 26 = .ok (.iload_n 2, 1) := by decide +kernel
theorem dX11_putBytes_27 : decode cX11_putBytes 27 = .ok (.iushr, 1) := by decide +kernel
theorem dX11_putBytes_28 : decode cX11_putBytes 28 = .ok (.i2b, 1) := by decide +kernel
theorem dX11_putBytes_29 : decode cX11_putBytes 29 = .ok (.bastore, 1) := by decide +kernel
theorem dX11_putBytes_30 : decode cX11_putBytes 30 = .ok (.aload_n 0, 1) := by decide +kernel
theorem dX11_putBytes_31 : decode cX11_putBytes 31 = .ok (.dup, 1) := by decide +kernel
theorem dX11_putBytes_32 : decode cX11_putBytes 32 = .ok (.getfield 13, 3) := by decide +kernel
theorem dX11_putBytes_35 : decode cX11_putBytes 35 = .ok (.iconst 1, 1) := by decide +kernel
theorem dX11_putBytes_36 : decode cX11_putBytes 36 = .ok (.iadd, 1) := by decide +kernel
theorem dX11_putBytes_37 : decode cX11_putBytes 37 = .ok (.putfield 13, 3) := by decide +kernel
theorem dX11_putBytes_40 : decode cX11_putBytes 40 = .ok (.iinc 2 (-8), 3) := by decide +kernel
theorem dX11_putBytes_43 : decode cX11_putBytes 43 = .ok (.goto (-40), 3) := by decide +kernel
theorem dX11_putBytes_46 : decode cX11_putBytes 46 = .ok (.return_, 1) := by decide +kernel
theorem dX11_end_0 : decode cX11_end 0 = .ok (.iload_n 1, 1) := by decide +kernel
theorem dX11_end_1 : decode cX11_end 1 = .ok (.ifCond .lt 11, 3) := by decide +kernel
theorem dX11_end_4 : decode cX11_end 4 = .ok (.iload_n 1, 1) := by decide +kernel
theorem dX11_end_5 : decode cX11_end 5 = .ok (.aload_n 0, 1) := by decide +kernel
theorem dX11_end_6 : decode cX11_end 6 = .ok (.getfield 13, 3) := by decide +kernel
theorem dX11_end_9 : decode cX11_end 9 = .ok (.if_icmp .le 5, 3) := by decide +kernel
theorem dX11_end_12 : decode cX11_end 12 = .ok (.iconst (-1), 1) := by decide +kernel
theorem dX11_end_13 : decode cX11_end 13 = .ok (.ireturn, 1) := by decide +kernel
theorem dX11_end_14 : decode cX11_end 14 = .ok (.aload_n 0, 1) := by decide +kernel
theorem dX11_end_15 : decode cX11_end 15 = .ok (.iload_n 1, 1) := by decide +kernel
theorem dX11_end_16 : decode cX11_end 16 = .ok (.putfield 13, 3) := by decide +kernel
theorem dX11_end_19 : decode cX11_end 19 = .ok (.iload_n 1, 1) := by decide +kernel
theorem dX11_end_20 : decode cX11_end 20 = .ok (.ireturn, 1) := by decide +kernel
theorem dX11_fault_0 : decode cX11_fault 0 = .ok (.iload_n 1, 1) := by decide +kernel
theorem dX11_fault_1 : decode cX11_fault 1 = .ok (.ifCond .ne 8, 3) := by decide +kernel
theorem dX11_fault_4 : decode cX11_fault 4 = .ok (.aload_n 0, 1) := by decide +kernel
theorem dX11_fault_5 : decode cX11_fault 5 = .ok (.getfield 43, 3) := by decide +kernel
theorem dX11_fault_8 : decode cX11_fault 8 = .ok (.ireturn, 1) := by decide +kernel
theorem dX11_fault_9 : decode cX11_fault 9 = .ok (.iload_n 1, 1) := by decide +kernel
theorem dX11_fault_10 : decode cX11_fault 10 = .ok (.iconst 1, 1) := by decide +kernel
theorem dX11_fault_11 : decode cX11_fault 11 = .ok (.if_icmp .ne 10, 3) := by decide +kernel
theorem dX11_fault_14 : decode cX11_fault 14 = .ok (.aload_n 0, 1) := by decide +kernel
theorem dX11_fault_15 : decode cX11_fault 15 = .ok (.getfield 46, 3) := by decide +kernel
theorem dX11_fault_18 : decode cX11_fault 18 = .ok (.goto 4, 3) := by decide +kernel
theorem dX11_fault_21 : decode cX11_fault 21 = .ok (.iconst (-1), 1) := by decide +kernel
theorem dX11_fault_22 : decode cX11_fault 22 = .ok (.ireturn, 1) := by decide +kernel
theorem dX11_about_0 : decode cX11_about 0 = .ok (.aload_n 0, 1) := by decide +kernel
theorem dX11_about_1 : decode cX11_about 1 = .ok (.getfield 27, 3) := by decide +kernel
theorem dX11_about_4 : decode cX11_about 4 = .ok (.iload_n 1, 1) := by decide +kernel
theorem dX11_about_5 : decode cX11_about 5 = .ok (.invokevirtual 78, 3) := by decide +kernel
theorem dX11_about_8 : decode cX11_about 8 = .ok (.ifCond .ne 5, 3) := by decide +kernel
theorem dX11_about_11 : decode cX11_about 11 = .ok (.iconst (-1), 1) := by decide +kernel
theorem dX11_about_12 : decode cX11_about 12 = .ok (.ireturn, 1) := by decide +kernel
theorem dX11_about_13 : decode cX11_about 13 = .ok (.aload_n 0, 1) := by decide +kernel
theorem dX11_about_14 : decode cX11_about 14 = .ok (.getfield 27, 3) := by decide +kernel
theorem dX11_about_17 : decode cX11_about 17 = .ok (.getfield 82, 3) := by decide +kernel
theorem dX11_about_20 : decode cX11_about 20 = .ok (.iload_n 1, 1) := by decide +kernel
theorem dX11_about_21 : decode cX11_about 21 = .ok (.aaload, 1) := by decide +kernel
theorem dX11_about_22 : decode cX11_about 22 = .ok (.astore_n 3, 1) := by decide +kernel
theorem dX11_about_23 : decode cX11_about 23 = .ok (.iload_n 2, 1) := by decide +kernel
theorem dX11_about_24 : decode cX11_about 24 = .ok (.tableswitch 70 0 5 #[40, 45, 50, 55, 60, 65], 40) := by decide +kernel
theorem dX11_about_64 : decode cX11_about 64 = .ok (.aload_n 3, 1) := by decide +kernel
theorem dX11_about_65 : decode cX11_about 65 = .ok (.getfield 86, 3) := by decide +kernel
theorem dX11_about_68 : decode cX11_about 68 = .ok (.ireturn, 1) := by decide +kernel
theorem dX11_about_69 : decode cX11_about 69 = .ok (.aload_n 3, 1) := by decide +kernel
theorem dX11_about_70 : decode cX11_about 70 = .ok (.getfield 91, 3) := by decide +kernel
theorem dX11_about_73 : decode cX11_about 73 = .ok (.ireturn, 1) := by decide +kernel
theorem dX11_about_74 : decode cX11_about 74 = .ok (.aload_n 3, 1) := by decide +kernel
theorem dX11_about_75 : decode cX11_about 75 = .ok (.getfield 94, 3) := by decide +kernel
theorem dX11_about_78 : decode cX11_about 78 = .ok (.ireturn, 1) := by decide +kernel
theorem dX11_about_79 : decode cX11_about 79 = .ok (.aload_n 3, 1) := by decide +kernel
theorem dX11_about_80 : decode cX11_about 80 = .ok (.getfield 97, 3) := by decide +kernel
theorem dX11_about_83 : decode cX11_about 83 = .ok (.ireturn, 1) := by decide +kernel
theorem dX11_about_84 : decode cX11_about 84 = .ok (.aload_n 3, 1) := by decide +kernel
theorem dX11_about_85 : decode cX11_about 85 = .ok (.getfield 100, 3) := by decide +kernel
theorem dX11_about_88 : decode cX11_about 88 = .ok (.ireturn, 1) := by decide +kernel
theorem dX11_about_89 : decode cX11_about 89 = .ok (.aload_n 3, 1) := by decide +kernel
theorem dX11_about_90 : decode cX11_about 90 = .ok (.getfield 103, 3) := by decide +kernel
theorem dX11_about_93 : decode cX11_about 93 = .ok (.ireturn, 1) := by decide +kernel
theorem dX11_about_94 : decode cX11_about 94 = .ok (.iconst (-1), 1) := by decide +kernel
theorem dX11_about_95 : decode cX11_about 95 = .ok (.ireturn, 1) := by decide +kernel
theorem dX11_member_0 : decode cX11_member 0 = .ok (.aload_n 0, 1) := by decide +kernel
theorem dX11_member_1 : decode cX11_member 1 = .ok (.getfield 27, 3) := by decide +kernel
theorem dX11_member_4 : decode cX11_member 4 = .ok (.iload_n 1, 1) := by decide +kernel
theorem dX11_member_5 : decode cX11_member 5 = .ok (.iload_n 2, 1) := by decide +kernel
theorem dX11_member_6 : decode cX11_member 6 = .ok (.invokevirtual 106, 3) := by decide +kernel
theorem dX11_member_9 : decode cX11_member 9 = .ok (.ifCond .ne 5, 3) := by decide +kernel
theorem dX11_member_12 : decode cX11_member 12 = .ok (.iconst (-1), 1) := by decide +kernel
theorem dX11_member_13 : decode cX11_member 13 = .ok (.ireturn, 1) := by decide +kernel
theorem dX11_member_14 : decode cX11_member 14 = .ok (.aload_n 0, 1) := by decide +kernel
theorem dX11_member_15 : decode cX11_member 15 = .ok (.getfield 27, 3) := by decide +kernel
theorem dX11_member_18 : decode cX11_member 18 = .ok (.getfield 110, 3) := by decide +kernel
theorem dX11_member_21 : decode cX11_member 21 = .ok (.aload_n 0, 1) := by decide +kernel
theorem dX11_member_22 : decode cX11_member 22 = .ok (.getfield 27, 3) := by decide +kernel
theorem dX11_member_25 : decode cX11_member 25 = .ok (.getfield 82, 3) := by decide +kernel
theorem dX11_member_28 : decode cX11_member 28 = .ok (.iload_n 1, 1) := by decide +kernel
theorem dX11_member_29 : decode cX11_member 29 = .ok (.aaload, 1) := by decide +kernel
theorem dX11_member_30 : decode cX11_member 30 = .ok (.getfield 114, 3) := by decide +kernel
theorem dX11_member_33 : decode cX11_member 33 = .ok (.iload_n 2, 1) := by decide +kernel
theorem dX11_member_34 : decode cX11_member 34 = .ok (.iaload, 1) := by decide +kernel
theorem dX11_member_35 : decode cX11_member 35 = .ok (.aaload, 1) := by decide +kernel
theorem dX11_member_36 : decode cX11_member 36 = .ok (.astore 4, 2) := by decide +kernel
theorem dX11_member_38 : decode cX11_member 38 = .ok (.iload_n 3, 1) := by decide +kernel
theorem dX11_member_39 : decode cX11_member 39 = .ok (.tableswitch 85 0 5 #[37, 43, 49, 55, 65, 79], 37) := by decide +kernel
theorem dX11_member_76 : decode cX11_member 76 = .ok (.aload 4, 2) := by decide +kernel
theorem dX11_member_78 : decode cX11_member 78 = .ok (.getfield 118, 3) := by decide +kernel
theorem dX11_member_81 : decode cX11_member 81 = .ok (.ireturn, 1) := by decide +kernel
theorem dX11_member_82 : decode cX11_member 82 = .ok (.aload 4, 2) := by decide +kernel
theorem dX11_member_84 : decode cX11_member 84 = .ok (.getfield 123, 3) := by decide +kernel
theorem dX11_member_87 : decode cX11_member 87 = .ok (.ireturn, 1) := by decide +kernel
theorem dX11_member_88 : decode cX11_member 88 = .ok (.aload 4, 2) := by decide +kernel
theorem dX11_member_90 : decode cX11_member 90 = .ok (.getfield 126, 3) := by decide +kernel
theorem dX11_member_93 : decode cX11_member 93 = .ok (.ireturn, 1) := by decide +kernel
theorem dX11_member_94 : decode cX11_member 94 = .ok (.aload_n 0, 1) := by decide +kernel
theorem dX11_member_95 : decode cX11_member 95 = .ok (.getfield 27, 3) := by decide +kernel
theorem dX11_member_98 : decode cX11_member 98 = .ok (.aload 4, 2) := by decide +kernel
theorem dX11_member_100 : decode cX11_member 100 = .ok (.invokevirtual 129, 3) := by decide +kernel
theorem dX11_member_103 : decode cX11_member 103 = .ok (.ireturn, 1) := by decide +kernel
theorem dX11_member_104 : decode cX11_member 104 = .ok (.aload 4, 2) := by decide +kernel
theorem dX11_member_106 : decode cX11_member 106 = .ok (.getfield 133, 3) := by decide +kernel
theorem dX11_member_109 : decode cX11_member 109 = .ok (.ifCond .eq 7, 3) := by decide +kernel
theorem dX11_member_112 : decode cX11_member 112 = .ok (.iconst 1, 1) := by decide +kernel
theorem dX11_member_113 : decode cX11_member 113 = .ok (.goto 4, 3) := by decide +kernel
theorem dX11_member_116 : decode cX11_member 116 = .ok (.iconst 0, 1) := by decide +kernel
theorem dX11_member_117 : decode cX11_member 117 = .ok (.ireturn, 1) := by decide +kernel
theorem dX11_member_118 : decode cX11_member 118 = .ok (.aload 4, 2) := by decide +kernel
theorem dX11_member_120 : decode cX11_member 120 = .ok (.getfield 137, 3) := by decide +kernel
theorem dX11_member_123 : decode cX11_member 123 = .ok (.ireturn, 1) := by decide +kernel
theorem dX11_member_124 : decode cX11_member 124 = .ok (.iconst (-1), 1) := by decide +kernel
theorem dX11_member_125 : decode cX11_member 125 = .ok (.ireturn, 1) := by decide +kernel
theorem dX11_model_0 : decode cX11_model 0 = .ok (.aload_n 0, 1) := by decide +kernel
theorem dX11_model_1 : decode cX11_model 1 = .ok (.getfield 27, 3) := by decide +kernel
theorem dX11_model_4 : decode cX11_model 4 = .ok (.iload_n 1, 1) := by decide +kernel
theorem dX11_model_5 : decode cX11_model 5 = .ok (.invokevirtual 78, 3) := by decide +kernel
theorem dX11_model_8 : decode cX11_model 8 = .ok (.ifCond .eq 19, 3) := by decide +kernel
theorem dX11_model_11 : decode cX11_model 11 = .ok (.iload_n 2, 1) := by decide +kernel
theorem dX11_model_12 : decode cX11_model 12 = .ok (.iconst (-1), 1) := by decide +kernel
theorem dX11_model_13 : decode cX11_model 13 = .ok (.if_icmp .eq 17, 3) := by decide +kernel
theorem dX11_model_16 : decode cX11_model 16 = .ok (.aload_n 0, 1) := by decide +kernel
theorem dX11_model_17 : decode cX11_model 17 = .ok (.getfield 27, 3) := by decide +kernel
theorem dX11_model_20 : decode cX11_model 20 = .ok (.iload_n 2, 1) := by decide +kernel
theorem dX11_model_21 : decode cX11_model 21 = .ok (.invokevirtual 78, 3) := by decide +kernel
theorem dX11_model_24 : decode cX11_model 24 = .ok (.ifCond .ne 6, 3) := by decide +kernel
theorem dX11_model_27 : decode cX11_model 27 = .ok (.bipush (-2), 2) := by decide +kernel
theorem dX11_model_29 : decode cX11_model 29 = .ok (.ireturn, 1) := by decide +kernel
theorem dX11_model_30 : decode cX11_model 30 = .ok (.aload_n 0, 1) := by decide +kernel
theorem dX11_model_31 : decode cX11_model 31 = .ok (.getfield 27, 3) := by decide +kernel
theorem dX11_model_34 : decode cX11_model 34 = .ok (.getfield 82, 3) := by decide +kernel
theorem dX11_model_37 : decode cX11_model 37 = .ok (.iload_n 1, 1) := by decide +kernel
theorem dX11_model_38 : decode cX11_model 38 = .ok (.aaload, 1) := by decide +kernel
theorem dX11_model_39 : decode cX11_model 39 = .ok (.iload_n 2, 1) := by decide +kernel
theorem dX11_model_40 : decode cX11_model 40 = .ok (.putfield 103, 3) := by decide +kernel
theorem dX11_model_43 : decode cX11_model 43 = .ok (.iconst 1, 1) := by decide +kernel
theorem dX11_model_44 : decode cX11_model 44 = .ok (.ireturn, 1) := by decide +kernel
theorem dX11_clear_0 : decode cX11_clear 0 = .ok (.aload_n 0, 1) := by decide +kernel
theorem dX11_clear_1 : decode cX11_clear 1 = .ok (.getfield 39, 3) := by decide +kernel
theorem dX11_clear_4 : decode cX11_clear 4 = .ok (.getfield 140, 3) := by decide +kernel
theorem dX11_clear_7 : decode cX11_clear 7 = .ok (.getfield 144, 3) := by decide +kernel
theorem dX11_clear_10 : decode cX11_clear 10 = .ok (.istore_n 1, 1) := by decide +kernel
theorem dX11_clear_11 : decode cX11_clear 11 = .ok (.aload_n 0, 1) := by decide +kernel
theorem dX11_clear_12 : decode cX11_clear 12 = .ok (.getfield 39, 3) := by decide +kernel
theorem dX11_clear_15 : decode cX11_clear 15 = .ok (.invokevirtual 149, 3) := by decide +kernel
theorem dX11_clear_18 : decode cX11_clear 18 = .ok (.iload_n 1, 1) := by decide +kernel
theorem dX11_clear_19 : decode cX11_clear 19 = .ok (.ireturn, 1) := by decide +kernel
theorem dX11_make_0 : decode cX11_make 0 = .ok (.aload_n 0, 1) := by decide +kernel
theorem dX11_make_1 : decode cX11_make 1 = .ok (.getfield 27, 3) := by decide +kernel
theorem dX11_make_4 : decode cX11_make 4 = .ok (.iload_n 1, 1) := by decide +kernel
theorem dX11_make_5 : decode cX11_make 5 = .ok (.invokevirtual 78, 3) := by decide +kernel
theorem dX11_make_8 : decode cX11_make 8 = .ok (.ifCond .ne 6, 3) := by decide +kernel
theorem dX11_make_11 : decode cX11_make 11 = .ok (.bipush (-2), 2) := by decide +kernel
theorem dX11_make_13 : decode cX11_make 13 = .ok (.ireturn, 1) := by decide +kernel
theorem dX11_make_14 : decode cX11_make 14 = .ok (.aload_n 0, 1) := by decide +kernel
theorem dX11_make_15 : decode cX11_make 15 = .ok (.getfield 39, 3) := by decide +kernel
theorem dX11_make_18 : decode cX11_make 18 = .ok (.getfield 140, 3) := by decide +kernel
theorem dX11_make_21 : decode cX11_make 21 = .ok (.invokevirtual 152, 3) := by decide +kernel
theorem dX11_make_24 : decode cX11_make 24 = .ok (.ifCond .ne 6, 3) := by decide +kernel
theorem dX11_make_27 : decode cX11_make 27 = .ok (.bipush (-3), 2) := by decide +kernel
theorem dX11_make_29 : decode cX11_make 29 = .ok (.ireturn, 1) := by decide +kernel
theorem dX11_make_30 : decode cX11_make 30 = .ok (.aload_n 0, 1) := by decide +kernel
theorem dX11_make_31 : decode cX11_make 31 = .ok (.getfield 39, 3) := by decide +kernel
theorem dX11_make_34 : decode cX11_make 34 = .ok (.iload_n 1, 1) := by decide +kernel
theorem dX11_make_35 : decode cX11_make 35 = .ok (.invokevirtual 155, 3) := by decide +kernel
theorem dX11_make_38 : decode cX11_make 38 = .ok (.ireturn, 1) := by decide +kernel
theorem dX11_call_0 : decode cX11_call 0 = .ok (.aload_n 0, 1) := by decide +kernel
theorem dX11_call_1 : decode cX11_call 1 = .ok (.getfield 39, 3) := by decide +kernel
theorem dX11_call_4 : decode cX11_call 4 = .ok (.getfield 140, 3) := by decide +kernel
theorem dX11_call_7 : decode cX11_call 7 = .ok (.aload_n 0, 1) := by decide +kernel
theorem dX11_call_8 : decode cX11_call 8 = .ok (.getfield 27, 3) := by decide +kernel
theorem dX11_call_11 : decode cX11_call 11 = .ok (.iload_n 1, 1) := by decide +kernel
theorem dX11_call_12 : decode cX11_call 12 = .ok (.iload_n 2, 1) := by decide +kernel
theorem dX11_call_13 : decode cX11_call 13 = .ok (.iload_n 3, 1) := by decide +kernel
theorem dX11_call_14 : decode cX11_call 14 = .ok (.iload 4, 2) := by decide +kernel
theorem dX11_call_16 : decode cX11_call 16 = .ok (.iload 5, 2) := by decide +kernel
theorem dX11_call_18 : decode cX11_call 18 = .ok (.invokevirtual 159, 3) := by decide +kernel
theorem dX11_call_21 : decode cX11_call 21 = .ok (.ifCond .ne 6, 3) := by decide +kernel
theorem dX11_call_24 : decode cX11_call 24 = .ok (.bipush (-2), 2) := by decide +kernel
theorem dX11_call_26 : decode cX11_call 26 = .ok (.ireturn, 1) := by decide +kernel
theorem dX11_call_27 : decode cX11_call 27 = .ok (.aload_n 0, 1) := by decide +kernel
theorem dX11_call_28 : decode cX11_call 28 = .ok (.getfield 39, 3) := by decide +kernel
theorem dX11_call_31 : decode cX11_call 31 = .ok (.getfield 140, 3) := by decide +kernel
theorem dX11_call_34 : decode cX11_call 34 = .ok (.invokevirtual 163, 3) := by decide +kernel
theorem dX11_call_37 : decode cX11_call 37 = .ok (.ifCond .ne 6, 3) := by decide +kernel
theorem dX11_call_40 : decode cX11_call 40 = .ok (.bipush (-3), 2) := by decide +kernel
theorem dX11_call_42 : decode cX11_call 42 = .ok (.ireturn, 1) := by decide +kernel
theorem dX11_call_43 : decode cX11_call 43 = .ok (.aload_n 0, 1) := by decide +kernel
theorem dX11_call_44 : decode cX11_call 44 = .ok (.getfield 39, 3) := by decide +kernel
theorem dX11_call_47 : decode cX11_call 47 = .ok (.iload_n 1, 1) := by decide +kernel
theorem dX11_call_48 : decode cX11_call 48 = .ok (.iload_n 2, 1) := by decide +kernel
theorem dX11_call_49 : decode cX11_call 49 = .ok (.iload_n 3, 1) := by decide +kernel
theorem dX11_call_50 : decode cX11_call 50 = .ok (.iload 4, 2) := by decide +kernel
theorem dX11_call_52 : decode cX11_call 52 = .ok (.iload 5, 2) := by decide +kernel
theorem dX11_call_54 : decode cX11_call 54 = .ok (.invokevirtual 166, 3) := by decide +kernel
theorem dX11_call_57 : decode cX11_call 57 = .ok (.ireturn, 1) := by decide +kernel
theorem dX11_run_0 : decode cX11_run 0 = .ok (.aload_n 0, 1) := by decide +kernel
theorem dX11_run_1 : decode cX11_run 1 = .ok (.getfield 39, 3) := by decide +kernel
theorem dX11_run_4 : decode cX11_run 4 = .ok (.getfield 140, 3) := by decide +kernel
theorem dX11_run_7 : decode cX11_run 7 = .ok (.getfield 144, 3) := by decide +kernel
theorem dX11_run_10 : decode cX11_run 10 = .ok (.ifCond .ne 6, 3) := by decide +kernel
theorem dX11_run_13 : decode cX11_run 13 = .ok (.bipush (-2), 2) := by decide +kernel
theorem dX11_run_15 : decode cX11_run 15 = .ok (.ireturn, 1) := by decide +kernel
theorem dX11_run_16 : decode cX11_run 16 = .ok (.aload_n 0, 1) := by decide +kernel
theorem dX11_run_17 : decode cX11_run 17 = .ok (.getfield 39, 3) := by decide +kernel
theorem dX11_run_20 : decode cX11_run 20 = .ok (.invokevirtual 170, 3) := by decide +kernel
theorem dX11_run_23 : decode cX11_run 23 = .ok (.aload_n 0, 1) := by decide +kernel
theorem dX11_run_24 : decode cX11_run 24 = .ok (.getfield 39, 3) := by decide +kernel
theorem dX11_run_27 : decode cX11_run 27 = .ok (.getfield 173, 3) := by decide +kernel
theorem dX11_run_30 : decode cX11_run 30 = .ok (.getfield 177, 3) := by decide +kernel
theorem dX11_run_33 : decode cX11_run 33 = .ok (.ireturn, 1) := by decide +kernel
theorem dX11_draw_0 : decode cX11_draw 0 = .ok (.aload_n 0, 1) := by decide +kernel
theorem dX11_draw_1 : decode cX11_draw 1 = .ok (.getfield 27, 3) := by decide +kernel
theorem dX11_draw_4 : decode cX11_draw 4 = .ok (.iload_n 1, 1) := by decide +kernel
theorem dX11_draw_5 : decode cX11_draw 5 = .ok (.invokevirtual 78, 3) := by decide +kernel
theorem dX11_draw_8 : decode cX11_draw 8 = .ok (.ifCond .eq 14, 3) := by decide +kernel
theorem dX11_draw_11 : decode cX11_draw 11 = .ok (.iload_n 3, 1) := by decide +kernel
theorem dX11_draw_12 : decode cX11_draw 12 = .ok (.iconst 1, 1) := by decide +kernel
theorem dX11_draw_13 : decode cX11_draw 13 = .ok (.if_icmp .lt 9, 3) := by decide +kernel
theorem dX11_draw_16 : decode cX11_draw 16 = .ok (.iload_n 3, 1) := by decide +kernel
theorem dX11_draw_17 : decode cX11_draw 17 = .ok (.bipush 100, 2) := by decide +kernel
theorem dX11_draw_19 : decode cX11_draw 19 = .ok (.if_icmp .le 6, 3) := by decide +kernel
theorem dX11_draw_22 : decode cX11_draw 22 = .ok (.bipush (-2), 2) := by decide +kernel
theorem dX11_draw_24 : decode cX11_draw 24 = .ok (.ireturn, 1) := by decide +kernel
theorem dX11_draw_25 : decode cX11_draw 25 = .ok (.aload_n 0, 1) := by decide +kernel
theorem dX11_draw_26 : decode cX11_draw 26 = .ok (.getfield 39, 3) := by decide +kernel
theorem dX11_draw_29 : decode cX11_draw 29 = .ok (.iload_n 1, 1) := by decide +kernel
theorem dX11_draw_30 : decode cX11_draw 30 = .ok (.iload_n 2, 1) := by decide +kernel
theorem dX11_draw_31 : decode cX11_draw 31 = .ok (.iload_n 3, 1) := by decide +kernel
theorem dX11_draw_32 : decode cX11_draw 32 = .ok (.invokevirtual 182, 3) := by decide +kernel
theorem dX11_draw_35 : decode cX11_draw 35 = .ok (.ireturn, 1) := by decide +kernel
theorem dX11_all_0 : decode cX11_all 0 = .ok (.aload_n 0, 1) := by decide +kernel
theorem dX11_all_1 : decode cX11_all 1 = .ok (.getfield 27, 3) := by decide +kernel
theorem dX11_all_4 : decode cX11_all 4 = .ok (.iload_n 1, 1) := by decide +kernel
theorem dX11_all_5 : decode cX11_all 5 = .ok (.invokevirtual 78, 3) := by decide +kernel
theorem dX11_all_8 : decode cX11_all 8 = .ok (.ifCond .eq 13, 3) := by decide +kernel
theorem dX11_all_11 : decode cX11_all 11 = .ok (.iload_n 2, 1) := by decide +kernel
theorem dX11_all_12 : decode cX11_all 12 = .ok (.iconst 1, 1) := by decide +kernel
theorem dX11_all_13 : decode cX11_all 13 = .ok (.if_icmp .lt 8, 3) := by decide +kernel
theorem dX11_all_16 : decode cX11_all 16 = .ok (.iload_n 2, 1) := by decide +kernel
theorem dX11_all_17 : decode cX11_all 17 = .ok (.iconst 4, 1) := by decide +kernel
theorem dX11_all_18 : decode cX11_all 18 = .ok (.if_icmp .le 6, 3) := by decide +kernel
theorem dX11_all_21 : decode cX11_all 21 = .ok (.bipush (-2), 2) := by decide +kernel
theorem dX11_all_23 : decode cX11_all 23 = .ok (.ireturn, 1) := by decide +kernel
theorem dX11_all_24 : decode cX11_all 24 = .ok (.aload_n 0, 1) := by decide +kernel
theorem dX11_all_25 : decode cX11_all 25 = .ok (.getfield 39, 3) := by decide +kernel
theorem dX11_all_28 : decode cX11_all 28 = .ok (.iload_n 1, 1) := by decide +kernel
theorem dX11_all_29 : decode cX11_all 29 = .ok (.iload_n 2, 1) := by decide +kernel
theorem dX11_all_30 : decode cX11_all 30 = .ok (.invokevirtual 186, 3) := by decide +kernel
theorem dX11_all_33 : decode cX11_all 33 = .ok (.ireturn, 1) := by decide +kernel
theorem dX11_tried_0 : decode cX11_tried 0 = .ok (.aload_n 0, 1) := by decide +kernel
theorem dX11_tried_1 : decode cX11_tried 1 = .ok (.getfield 39, 3) := by decide +kernel
theorem dX11_tried_4 : decode cX11_tried 4 = .ok (.getfield 190, 3) := by decide +kernel
theorem dX11_tried_7 : decode cX11_tried 7 = .ok (.ireturn, 1) := by decide +kernel
theorem dX11_cut_0 : decode cX11_cut 0 = .ok (.aload_n 0, 1) := by decide +kernel
theorem dX11_cut_1 : decode cX11_cut 1 = .ok (.getfield 39, 3) := by decide +kernel
theorem dX11_cut_4 : decode cX11_cut 4 = .ok (.getfield 193, 3) := by decide +kernel
theorem dX11_cut_7 : decode cX11_cut 7 = .ok (.ireturn, 1) := by decide +kernel
theorem dX11_shrink_0 : decode cX11_shrink 0 = .ok (.aload_n 0, 1) := by decide +kernel
theorem dX11_shrink_1 : decode cX11_shrink 1 = .ok (.getfield 39, 3) := by decide +kernel
theorem dX11_shrink_4 : decode cX11_shrink 4 = .ok (.getfield 196, 3) := by decide +kernel
theorem dX11_shrink_7 : decode cX11_shrink 7 = .ok (.ifCond .eq 16, 3) := by decide +kernel
theorem dX11_shrink_10 : decode cX11_shrink 10 = .ok (.aload_n 0, 1) := by decide +kernel
theorem dX11_shrink_11 : decode cX11_shrink 11 = .ok (.getfield 39, 3) := by decide +kernel
theorem dX11_shrink_14 : decode cX11_shrink 14 = .ok (.getfield 173, 3) := by decide +kernel
theorem dX11_shrink_17 : decode cX11_shrink 17 = .ok (.getfield 177, 3) := by decide +kernel
theorem dX11_shrink_20 : decode cX11_shrink 20 = .ok (.ifCond .gt 6, 3) := by decide +kernel
theorem dX11_shrink_23 : decode cX11_shrink 23 = .ok (.bipush (-2), 2) := by decide +kernel
theorem dX11_shrink_25 : decode cX11_shrink 25 = .ok (.ireturn, 1) := by decide +kernel
theorem dX11_shrink_26 : decode cX11_shrink 26 = .ok (.aload_n 0, 1) := by decide +kernel
theorem dX11_shrink_27 : decode cX11_shrink 27 = .ok (.getfield 39, 3) := by decide +kernel
theorem dX11_shrink_30 : decode cX11_shrink 30 = .ok (.invokevirtual 199, 3) := by decide +kernel
theorem dX11_shrink_33 : decode cX11_shrink 33 = .ok (.ireturn, 1) := by decide +kernel
theorem dX11_verdict_0 : decode cX11_verdict 0 = .ok (.aload_n 0, 1) := by decide +kernel
theorem dX11_verdict_1 : decode cX11_verdict 1 = .ok (.getfield 39, 3) := by decide +kernel
theorem dX11_verdict_4 : decode cX11_verdict 4 = .ok (.getfield 173, 3) := by decide +kernel
theorem dX11_verdict_7 : decode cX11_verdict 7 = .ok (.getfield 177, 3) := by decide +kernel
theorem dX11_verdict_10 : decode cX11_verdict 10 = .ok (.ireturn, 1) := by decide +kernel
theorem dX11_condition_0 : decode cX11_condition 0 = .ok (.aload_n 0, 1) := by decide +kernel
theorem dX11_condition_1 : decode cX11_condition 1 = .ok (.getfield 39, 3) := by decide +kernel
theorem dX11_condition_4 : decode cX11_condition 4 = .ok (.getfield 173, 3) := by decide +kernel
theorem dX11_condition_7 : decode cX11_condition 7 = .ok (.astore_n 2, 1) := by decide +kernel
theorem dX11_condition_8 : decode cX11_condition 8 = .ok (.aload_n 2, 1) := by decide +kernel
theorem dX11_condition_9 : decode cX11_condition 9 = .ok (.getfield 202, 3) := by decide +kernel
theorem dX11_condition_12 : decode cX11_condition 12 = .ok (.istore_n 3, 1) := by decide +kernel
theorem dX11_condition_13 : decode cX11_condition 13 = .ok (.iload_n 3, 1) := by decide +kernel
theorem dX11_condition_14 : decode cX11_condition 14 = .ok (.ifCond .lt 14, 3) := by decide +kernel
theorem dX11_condition_17 : decode cX11_condition 17 = .ok (.iload_n 3, 1) := by decide +kernel
theorem dX11_condition_18 : decode cX11_condition 18 = .ok (.aload_n 0, 1) := by decide +kernel
theorem dX11_condition_19 : decode cX11_condition 19 = .ok (.getfield 27, 3) := by decide +kernel
theorem dX11_condition_22 : decode cX11_condition 22 = .ok (.getfield 205, 3) := by decide +kernel
theorem dX11_condition_25 : decode cX11_condition 25 = .ok (.if_icmp .lt 5, 3) := by decide +kernel
theorem dX11_condition_28 : decode cX11_condition 28 = .ok (.iconst (-1), 1) := by decide +kernel
theorem dX11_condition_29 : decode cX11_condition 29 = .ok (.ireturn, 1) := by decide +kernel
theorem dX11_condition_30 : decode cX11_condition 30 = .ok (.iload_n 1, 1) := by decide +kernel
theorem dX11_condition_31 : decode cX11_condition 31 = .ok (.tableswitch 64 0 3 #[29, 39, 44, 54], 29) := by decide +kernel
theorem dX11_condition_60 : decode cX11_condition 60 = .ok (.aload_n 0, 1) := by decide +kernel
theorem dX11_condition_61 : decode cX11_condition 61 = .ok (.getfield 27, 3) := by decide +kernel
theorem dX11_condition_64 : decode cX11_condition 64 = .ok (.getfield 208, 3) := by decide +kernel
theorem dX11_condition_67 : decode cX11_condition 67 = .ok (.iload_n 3, 1) := by decide +kernel
theorem dX11_condition_68 : decode cX11_condition 68 = .ok (.iaload, 1) := by decide +kernel
theorem dX11_condition_69 : decode cX11_condition 69 = .ok (.ireturn, 1) := by decide +kernel
theorem dX11_condition_70 : decode cX11_condition 70 = .ok (.aload_n 2, 1) := by decide +kernel
theorem dX11_condition_71 : decode cX11_condition 71 = .ok (.getfield 211, 3) := by decide +kernel
theorem dX11_condition_74 : decode cX11_condition 74 = .ok (.ireturn, 1) := by decide +kernel
theorem dX11_condition_75 : decode cX11_condition 75 = .ok (.aload_n 0, 1) := by decide +kernel
theorem dX11_condition_76 : decode cX11_condition 76 = .ok (.getfield 27, 3) := by decide +kernel
theorem dX11_condition_79 : decode cX11_condition 79 = .ok (.getfield 214, 3) := by decide +kernel
theorem dX11_condition_82 : decode cX11_condition 82 = .ok (.iload_n 3, 1) := by decide +kernel
theorem dX11_condition_83 : decode cX11_condition 83 = .ok (.iaload, 1) := by decide +kernel
theorem dX11_condition_84 : decode cX11_condition 84 = .ok (.ireturn, 1) := by decide +kernel
theorem dX11_condition_85 : decode cX11_condition 85 = .ok (.aload_n 0, 1) := by decide +kernel
theorem dX11_condition_86 : decode cX11_condition 86 = .ok (.getfield 27, 3) := by decide +kernel
theorem dX11_condition_89 : decode cX11_condition 89 = .ok (.getfield 217, 3) := by decide +kernel
theorem dX11_condition_92 : decode cX11_condition 92 = .ok (.iload_n 3, 1) := by decide +kernel
theorem dX11_condition_93 : decode cX11_condition 93 = .ok (.iaload, 1) := by decide +kernel
theorem dX11_condition_94 : decode cX11_condition 94 = .ok (.ireturn, 1) := by decide +kernel
theorem dX11_condition_95 : decode cX11_condition 95 = .ok (.iconst (-1), 1) := by decide +kernel
theorem dX11_condition_96 : decode cX11_condition 96 = .ok (.ireturn, 1) := by decide +kernel
theorem dX11_changed_0 : decode cX11_changed 0 = .ok (.iload_n 1, 1) := by decide +kernel
theorem dX11_changed_1 : decode cX11_changed 1 = .ok (.ifCond .ne 14, 3) := by decide +kernel
theorem dX11_changed_4 : decode cX11_changed 4 = .ok (.aload_n 0, 1) := by decide +kernel
theorem dX11_changed_5 : decode cX11_changed 5 = .ok (.getfield 39, 3) := by decide +kernel
theorem dX11_changed_8 : decode cX11_changed 8 = .ok (.getfield 173, 3) := by decide +kernel
theorem dX11_changed_11 : decode cX11_changed 11 = .ok (.getfield 220, 3) := by decide +kernel
theorem dX11_changed_14 : decode cX11_changed 14 = .ok (.ireturn, 1) := by decide +kernel
theorem dX11_changed_15 : decode cX11_changed 15 = .ok (.iload_n 1, 1) := by decide +kernel
theorem dX11_changed_16 : decode cX11_changed 16 = .ok (.iconst 1, 1) := by decide +kernel
theorem dX11_changed_17 : decode cX11_changed 17 = .ok (.if_icmp .ne 16, 3) := by decide +kernel
theorem dX11_changed_20 : decode cX11_changed 20 = .ok (.aload_n 0, 1) := by decide +kernel
theorem dX11_changed_21 : decode cX11_changed 21 = .ok (.getfield 39, 3) := by decide +kernel
theorem dX11_changed_24 : decode cX11_changed 24 = .ok (.getfield 173, 3) := by decide +kernel
theorem dX11_changed_27 : decode cX11_changed 27 = .ok (.getfield 223, 3) := by decide +kernel
theorem dX11_changed_30 : decode cX11_changed 30 = .ok (.goto 4, 3) := by decide +kernel
theorem dX11_changed_33 : decode cX11_changed 33 = .ok (.iconst (-1), 1) := by decide +kernel
theorem dX11_changed_34 : decode cX11_changed 34 = .ok (.ireturn, 1) := by decide +kernel
theorem dX11_thrown_0 : decode cX11_thrown 0 = .ok (.aload_n 0, 1) := by decide +kernel
theorem dX11_thrown_1 : decode cX11_thrown 1 = .ok (.getfield 39, 3) := by decide +kernel
theorem dX11_thrown_4 : decode cX11_thrown 4 = .ok (.getfield 173, 3) := by decide +kernel
theorem dX11_thrown_7 : decode cX11_thrown 7 = .ok (.getfield 226, 3) := by decide +kernel
theorem dX11_thrown_10 : decode cX11_thrown 10 = .ok (.iload_n 1, 1) := by decide +kernel
theorem dX11_thrown_11 : decode cX11_thrown 11 = .ok (.invokestatic 230, 3) := by decide +kernel
theorem dX11_thrown_14 : decode cX11_thrown 14 = .ok (.ireturn, 1) := by decide +kernel
theorem dX11_row_0 : decode cX11_row 0 = .ok (.aload_n 0, 1) := by decide +kernel
theorem dX11_row_1 : decode cX11_row 1 = .ok (.getfield 39, 3) := by decide +kernel
theorem dX11_row_4 : decode cX11_row 4 = .ok (.getfield 140, 3) := by decide +kernel
theorem dX11_row_7 : decode cX11_row 7 = .ok (.getfield 144, 3) := by decide +kernel
theorem dX11_row_10 : decode cX11_row 10 = .ok (.ireturn, 1) := by decide +kernel
theorem dX11_told_0 : decode cX11_told 0 = .ok (.aload_n 0, 1) := by decide +kernel
theorem dX11_told_1 : decode cX11_told 1 = .ok (.getfield 39, 3) := by decide +kernel
theorem dX11_told_4 : decode cX11_told 4 = .ok (.getfield 140, 3) := by decide +kernel
theorem dX11_told_7 : decode cX11_told 7 = .ok (.astore_n 3, 1) := by decide +kernel
theorem dX11_told_8 : decode cX11_told 8 = .ok (.iload_n 1, 1) := by decide +kernel
theorem dX11_told_9 : decode cX11_told 9 = .ok (.ifCond .lt 11, 3) := by decide +kernel
theorem dX11_told_12 : decode cX11_told 12 = .ok (.iload_n 1, 1) := by decide +kernel
theorem dX11_told_13 : decode cX11_told 13 = .ok (.aload_n 3, 1) := by decide +kernel
theorem dX11_told_14 : decode cX11_told 14 = .ok (.getfield 144, 3) := by decide +kernel
theorem dX11_told_17 : decode cX11_told 17 = .ok (.if_icmp .lt 5, 3) := by decide +kernel
theorem dX11_told_20 : decode cX11_told 20 = .ok (.iconst (-1), 1) := by decide +kernel
theorem dX11_told_21 : decode cX11_told 21 = .ok (.ireturn, 1) := by decide +kernel
theorem dX11_told_22 : decode cX11_told 22 = .ok (.iload_n 2, 1) := by decide +kernel
theorem dX11_told_23 : decode cX11_told 23 = .ok (.tableswitch 108 0 6 #[41, 48, 55, 64, 73, 82, 95], 41) := by decide +kernel
theorem dX11_told_64 : decode cX11_told 64 = .ok (.aload_n 3, 1) := by decide +kernel
theorem dX11_told_65 : decode cX11_told 65 = .ok (.getfield 236, 3) := by decide +kernel
theorem dX11_told_68 : decode cX11_told 68 = .ok (.iload_n 1, 1) := by decide +kernel
theorem dX11_told_69 : decode cX11_told 69 = .ok (.iaload, 1) := by decide +kernel
theorem dX11_told_70 : decode cX11_told 70 = .ok (.ireturn, 1) := by decide +kernel
theorem dX11_told_71 : decode cX11_told 71 = .ok (.aload_n 3, 1) := by decide +kernel
theorem dX11_told_72 : decode cX11_told 72 = .ok (.getfield 239, 3) := by decide +kernel
theorem dX11_told_75 : decode cX11_told 75 = .ok (.iload_n 1, 1) := by decide +kernel
theorem dX11_told_76 : decode cX11_told 76 = .ok (.iaload, 1) := by decide +kernel
theorem dX11_told_77 : decode cX11_told 77 = .ok (.ireturn, 1) := by decide +kernel
theorem dX11_told_78 : decode cX11_told 78 = .ok (.aload_n 3, 1) := by decide +kernel
theorem dX11_told_79 : decode cX11_told 79 = .ok (.getfield 242, 3) := by decide +kernel
theorem dX11_told_82 : decode cX11_told 82 = .ok (.iload_n 1, 1) := by decide +kernel
theorem dX11_told_83 : decode cX11_told 83 = .ok (.aaload, 1) := by decide +kernel
theorem dX11_told_84 : decode cX11_told 84 = .ok (.iconst 0, 1) := by decide +kernel
theorem dX11_told_85 : decode cX11_told 85 = .ok (.iaload, 1) := by decide +kernel
theorem dX11_told_86 : decode cX11_told 86 = .ok (.ireturn, 1) := by decide +kernel
theorem dX11_told_87 : decode cX11_told 87 = .ok (.aload_n 3, 1) := by decide +kernel
theorem dX11_told_88 : decode cX11_told 88 = .ok (.getfield 242, 3) := by decide +kernel
theorem dX11_told_91 : decode cX11_told 91 = .ok (.iload_n 1, 1) := by decide +kernel
theorem dX11_told_92 : decode cX11_told 92 = .ok (.aaload, 1) := by decide +kernel
theorem dX11_told_93 : decode cX11_told 93 = .ok (.iconst 1, 1) := by decide +kernel
theorem dX11_told_94 : decode cX11_told 94 = .ok (.iaload, 1) := by decide +kernel
theorem dX11_told_95 : decode cX11_told 95 = .ok (.ireturn, 1) := by decide +kernel
theorem dX11_told_96 : decode cX11_told 96 = .ok (.aload_n 3, 1) := by decide +kernel
theorem dX11_told_97 : decode cX11_told 97 = .ok (.getfield 242, 3) := by decide +kernel
theorem dX11_told_100 : decode cX11_told 100 = .ok (.iload_n 1, 1) := by decide +kernel
theorem dX11_told_101 : decode cX11_told 101 = .ok (.aaload, 1) := by decide +kernel
theorem dX11_told_102 : decode cX11_told 102 = .ok (.iconst 2, 1) := by decide +kernel
theorem dX11_told_103 : decode cX11_told 103 = .ok (.iaload, 1) := by decide +kernel
theorem dX11_told_104 : decode cX11_told 104 = .ok (.ireturn, 1) := by decide +kernel
theorem dX11_told_105 : decode cX11_told 105 = .ok (.aload_n 0, 1) := by decide +kernel
theorem dX11_told_106 : decode cX11_told 106 = .ok (.getfield 39, 3) := by decide +kernel
theorem dX11_told_109 : decode cX11_told 109 = .ok (.getfield 173, 3) := by decide +kernel
theorem dX11_told_112 : decode cX11_told 112 = .ok (.getfield 246, 3) := by decide +kernel
theorem dX11_told_115 : decode cX11_told 115 = .ok (.iload_n 1, 1) := by decide +kernel
theorem dX11_told_116 : decode cX11_told 116 = .ok (.iaload, 1) := by decide +kernel
theorem dX11_told_117 : decode cX11_told 117 = .ok (.ireturn, 1) := by decide +kernel
theorem dX11_told_118 : decode cX11_told 118 = .ok (.aload_n 0, 1) := by decide +kernel
theorem dX11_told_119 : decode cX11_told 119 = .ok (.getfield 39, 3) := by decide +kernel
theorem dX11_told_122 : decode cX11_told 122 = .ok (.getfield 173, 3) := by decide +kernel
theorem dX11_told_125 : decode cX11_told 125 = .ok (.getfield 249, 3) := by decide +kernel
theorem dX11_told_128 : decode cX11_told 128 = .ok (.iload_n 1, 1) := by decide +kernel
theorem dX11_told_129 : decode cX11_told 129 = .ok (.iaload, 1) := by decide +kernel
theorem dX11_told_130 : decode cX11_told 130 = .ok (.ireturn, 1) := by decide +kernel
theorem dX11_told_131 : decode cX11_told 131 = .ok (.iconst (-1), 1) := by decide +kernel
theorem dX11_told_132 : decode cX11_told 132 = .ok (.ireturn, 1) := by decide +kernel
theorem dX11_cell_0 : decode cX11_cell 0 = .ok (.aload_n 0, 1) := by decide +kernel
theorem dX11_cell_1 : decode cX11_cell 1 = .ok (.getfield 39, 3) := by decide +kernel
theorem dX11_cell_4 : decode cX11_cell 4 = .ok (.getfield 173, 3) := by decide +kernel
theorem dX11_cell_7 : decode cX11_cell 7 = .ok (.astore_n 3, 1) := by decide +kernel
theorem dX11_cell_8 : decode cX11_cell 8 = .ok (.iload_n 1, 1) := by decide +kernel
theorem dX11_cell_9 : decode cX11_cell 9 = .ok (.ifCond .lt 32, 3) := by decide +kernel
theorem dX11_cell_12 : decode cX11_cell 12 = .ok (.iload_n 1, 1) := by decide +kernel
theorem dX11_cell_13 : decode cX11_cell 13 = .ok (.aload_n 3, 1) := by decide +kernel
theorem dX11_cell_14 : decode cX11_cell 14 = .ok (.getfield 252, 3) := by decide +kernel
theorem dX11_cell_17 : decode cX11_cell 17 = .ok (.if_icmp .ge 24, 3) := by decide +kernel
theorem dX11_cell_20 : decode cX11_cell 20 = .ok (.iload_n 2, 1) := by decide +kernel
theorem dX11_cell_21 : decode cX11_cell 21 = .ok (.ifCond .lt 20, 3) := by decide +kernel
theorem dX11_cell_24 : decode cX11_cell 24 = .ok (.iload_n 2, 1) := by decide +kernel
theorem dX11_cell_25 : decode cX11_cell 25 = .ok (.aload_n 0, 1) := by decide +kernel
theorem dX11_cell_26 : decode cX11_cell 26 = .ok (.getfield 27, 3) := by decide +kernel
theorem dX11_cell_29 : decode cX11_cell 29 = .ok (.aload_n 3, 1) := by decide +kernel
theorem dX11_cell_30 : decode cX11_cell 30 = .ok (.getfield 255, 3) := by decide +kernel
theorem dX11_cell_33 : decode cX11_cell 33 = .ok (.iload_n 1, 1) := by decide +kernel
theorem dX11_cell_34 : decode cX11_cell 34 = .ok (.iaload, 1) := by decide +kernel
theorem dX11_cell_35 : decode cX11_cell 35 = .ok (.invokevirtual 258, 3) := by decide +kernel
theorem dX11_cell_38 : decode cX11_cell 38 = .ok (.if_icmp .lt 7, 3) := by decide +kernel
theorem dX11_cell_41 : decode cX11_cell 41 = .ok (.ldc2_w 263, 3) := by decide +kernel
theorem dX11_cell_44 : decode cX11_cell 44 = .ok (.lreturn, 1) := by decide +kernel
theorem dX11_cell_45 : decode cX11_cell 45 = .ok (.aload_n 3, 1) := by decide +kernel
theorem dX11_cell_46 : decode cX11_cell 46 = .ok (.getfield 265, 3) := by decide +kernel
theorem dX11_cell_49 : decode cX11_cell 49 = .ok (.iload_n 1, 1) := by decide +kernel
theorem dX11_cell_50 : decode cX11_cell 50 = .ok (.aaload, 1) := by decide +kernel
theorem dX11_cell_51 : decode cX11_cell 51 = .ok (.iload_n 2, 1) := by decide +kernel
theorem dX11_cell_52 : decode cX11_cell 52 = .ok (.iaload, 1) := by decide +kernel
theorem dX11_cell_53 : decode cX11_cell 53 = .ok (.i2l, 1) := by decide +kernel
theorem dX11_cell_54 : decode cX11_cell 54 = .ok (.lreturn, 1) := by decide +kernel
theorem dX11_beside_0 : decode cX11_beside 0 = .ok (.aload_n 0, 1) := by decide +kernel
theorem dX11_beside_1 : decode cX11_beside 1 = .ok (.getfield 39, 3) := by decide +kernel
theorem dX11_beside_4 : decode cX11_beside 4 = .ok (.getfield 173, 3) := by decide +kernel
theorem dX11_beside_7 : decode cX11_beside 7 = .ok (.astore_n 3, 1) := by decide +kernel
theorem dX11_beside_8 : decode cX11_beside 8 = .ok (.iload_n 1, 1) := by decide +kernel
theorem dX11_beside_9 : decode cX11_beside 9 = .ok (.ifCond .lt 32, 3) := by decide +kernel
theorem dX11_beside_12 : decode cX11_beside 12 = .ok (.iload_n 1, 1) := by decide +kernel
theorem dX11_beside_13 : decode cX11_beside 13 = .ok (.aload_n 3, 1) := by decide +kernel
theorem dX11_beside_14 : decode cX11_beside 14 = .ok (.getfield 252, 3) := by decide +kernel
theorem dX11_beside_17 : decode cX11_beside 17 = .ok (.if_icmp .ge 24, 3) := by decide +kernel
theorem dX11_beside_20 : decode cX11_beside 20 = .ok (.iload_n 2, 1) := by decide +kernel
theorem dX11_beside_21 : decode cX11_beside 21 = .ok (.ifCond .lt 20, 3) := by decide +kernel
theorem dX11_beside_24 : decode cX11_beside 24 = .ok (.iload_n 2, 1) := by decide +kernel
theorem dX11_beside_25 : decode cX11_beside 25 = .ok (.aload_n 0, 1) := by decide +kernel
theorem dX11_beside_26 : decode cX11_beside 26 = .ok (.getfield 27, 3) := by decide +kernel
theorem dX11_beside_29 : decode cX11_beside 29 = .ok (.aload_n 3, 1) := by decide +kernel
theorem dX11_beside_30 : decode cX11_beside 30 = .ok (.getfield 267, 3) := by decide +kernel
theorem dX11_beside_33 : decode cX11_beside 33 = .ok (.iload_n 1, 1) := by decide +kernel
theorem dX11_beside_34 : decode cX11_beside 34 = .ok (.iaload, 1) := by decide +kernel
theorem dX11_beside_35 : decode cX11_beside 35 = .ok (.invokevirtual 258, 3) := by decide +kernel
theorem dX11_beside_38 : decode cX11_beside 38 = .ok (.if_icmp .lt 7, 3) := by decide +kernel
theorem dX11_beside_41 : decode cX11_beside 41 = .ok (.ldc2_w 263, 3) := by decide +kernel
theorem dX11_beside_44 : decode cX11_beside 44 = .ok (.lreturn, 1) := by decide +kernel
theorem dX11_beside_45 : decode cX11_beside 45 = .ok (.aload_n 3, 1) := by decide +kernel
theorem dX11_beside_46 : decode cX11_beside 46 = .ok (.getfield 270, 3) := by decide +kernel
theorem dX11_beside_49 : decode cX11_beside 49 = .ok (.iload_n 1, 1) := by decide +kernel
theorem dX11_beside_50 : decode cX11_beside 50 = .ok (.aaload, 1) := by decide +kernel
theorem dX11_beside_51 : decode cX11_beside 51 = .ok (.iload_n 2, 1) := by decide +kernel
theorem dX11_beside_52 : decode cX11_beside 52 = .ok (.iaload, 1) := by decide +kernel
theorem dX11_beside_53 : decode cX11_beside 53 = .ok (.i2l, 1) := by decide +kernel
theorem dX11_beside_54 : decode cX11_beside 54 = .ok (.lreturn, 1) := by decide +kernel
theorem dX11_count_0 : decode cX11_count 0 = .ok (.iload_n 1, 1) := by decide +kernel
theorem dX11_count_1 : decode cX11_count 1 = .ok (.tableswitch 63 0 3 #[31, 39, 44, 52], 31) := by decide +kernel
theorem dX11_count_32 : decode cX11_count 32 = .ok (.aload_n 0, 1) := by decide +kernel
theorem dX11_count_33 : decode cX11_count 33 = .ok (.getfield 27, 3) := by decide +kernel
theorem dX11_count_36 : decode cX11_count 36 = .ok (.getfield 75, 3) := by decide +kernel
theorem dX11_count_39 : decode cX11_count 39 = .ok (.ireturn, 1) := by decide +kernel
theorem dX11_count_40 : decode cX11_count 40 = .ok (.aload_n 0, 1) := by decide +kernel
theorem dX11_count_41 : decode cX11_count 41 = .ok (.getfield 13, 3) := by decide +kernel
theorem dX11_count_44 : decode cX11_count 44 = .ok (.ireturn, 1) := by decide +kernel
theorem dX11_count_45 : decode cX11_count 45 = .ok (.aload_n 0, 1) := by decide +kernel
theorem dX11_count_46 : decode cX11_count 46 = .ok (.getfield 27, 3) := by decide +kernel
theorem dX11_count_49 : decode cX11_count 49 = .ok (.getfield 273, 3) := by decide +kernel
theorem dX11_count_52 : decode cX11_count 52 = .ok (.ireturn, 1) := by decide +kernel
theorem dX11_count_53 : decode cX11_count 53 = .ok (.aload_n 0, 1) := by decide +kernel
theorem dX11_count_54 : decode cX11_count 54 = .ok (.getfield 39, 3) := by decide +kernel
theorem dX11_count_57 : decode cX11_count 57 = .ok (.getfield 173, 3) := by decide +kernel
theorem dX11_count_60 : decode cX11_count 60 = .ok (.getfield 252, 3) := by decide +kernel
theorem dX11_count_63 : decode cX11_count 63 = .ok (.ireturn, 1) := by decide +kernel
theorem dX11_count_64 : decode cX11_count 64 = .ok (.iconst (-1), 1) := by decide +kernel
theorem dX11_count_65 : decode cX11_count 65 = .ok (.ireturn, 1) := by decide +kernel
theorem dX14_in_0 : decode cX14_in 0 = .ok (.lload_n 0, 1) := by decide +kernel
theorem dX14_in_1 : decode cX14_in 1 = .ok (.lload_n 2, 1) := by decide +kernel
theorem dX14_in_2 : decode cX14_in 2 = .ok (.lcmp, 1) := by decide +kernel
theorem dX14_in_3 : decode cX14_in 3 = .ok (.ifCond .lt 14, 3) := by decide +kernel
theorem dX14_in_6 : decode cX14_in 6 = .ok (.lload_n 0, 1) := by decide +kernel
theorem dX14_in_7 : decode cX14_in 7 = .ok (.lload 4, 2) := by decide +kernel
theorem dX14_in_9 : decode cX14_in 9 = .ok (.lcmp, 1) := by decide +kernel
theorem dX14_in_10 : decode cX14_in 10 = .ok (.ifCond .gt 7, 3) := by decide +kernel
theorem dX14_in_13 : decode cX14_in 13 = .ok (.iconst 1, 1) := by decide +kernel
theorem dX14_in_14 : decode cX14_in 14 = .ok (.goto 4, 3) := by decide +kernel
theorem dX14_in_17 : decode cX14_in 17 = .ok (.iconst 0, 1) := by decide +kernel
theorem dX14_in_18 : decode cX14_in 18 = .ok (.ireturn, 1) := by decide +kernel
theorem dX14_feed_0 : decode cX14_feed 0 = .ok (.aload_n 0, 1) := by decide +kernel
theorem dX14_feed_1 : decode cX14_feed 1 = .ok (.getfield 523, 3) := by decide +kernel
theorem dX14_feed_4 : decode cX14_feed 4 = .ok (.bipush 20, 2) := by decide +kernel
theorem dX14_feed_6 : decode cX14_feed 6 = .ok (.iadd, 1) := by decide +kernel
theorem dX14_feed_7 : decode cX14_feed 7 = .ok (.sipush 4000, 3) := by decide +kernel
theorem dX14_feed_10 : decode cX14_feed 10 = .ok (.if_icmp .le 6, 3) := by decide +kernel
theorem dX14_feed_13 : decode cX14_feed 13 = .ok (.bipush (-3), 2) := by decide +kernel
theorem dX14_feed_15 : decode cX14_feed 15 = .ok (.ireturn, 1) := by decide +kernel
theorem dX14_feed_16 : decode cX14_feed 16 = .ok (.iconst 0, 1) := by decide +kernel
theorem dX14_feed_17 : decode cX14_feed 17 = .ok (.istore 6, 2) := by decide +kernel
theorem dX14_feed_19 : decode cX14_feed 19 = .ok (.iload 6, 2) := by decide +kernel
theorem dX14_feed_21 : decode cX14_feed 21 = .ok (.iconst 5, 1) := by decide +kernel
theorem dX14_feed_22 : decode cX14_feed 22 = .ok (.if_icmp .ge 93, 3) := by decide +kernel
theorem dX14_feed_25 : decode cX14_feed 25 = .ok (.iload 6, 2) := by decide +kernel
theorem dX14_feed_27 : decode cX14_feed 27 = .ok (.ifCond .ne 7, 3) := by decide +kernel
theorem dX14_feed_30 : decode cX14_feed 30 = .ok (.iload_n 1, 1) := by decide +kernel
theorem dX14_feed_31 : decode cX14_feed 31 = .ok (.goto 36, 3) := by decide +kernel
theorem dX14_feed_34 : decode cX14_feed 34 = .ok (.iload 6, 2) := by decide +kernel
theorem dX14_feed_36 : decode cX14_feed 36 = .ok (.iconst 1, 1) := by decide +kernel
theorem dX14_feed_37 : decode cX14_feed 37 = .ok (.if_icmp .ne 7, 3) := by decide +kernel
theorem dX14_feed_40 : decode cX14_feed 40 = .ok (.iload_n 2, 1) := by decide +kernel
theorem dX14_feed_41 : decode cX14_feed 41 = .ok (.goto 26, 3) := by decide +kernel
theorem dX14_feed_44 : decode cX14_feed 44 = .ok (.iload 6, 2) := by decide +kernel
theorem dX14_feed_46 : decode cX14_feed 46 = .ok (.iconst 2, 1) := by decide +kernel
theorem dX14_feed_47 : decode cX14_feed 47 = .ok (.if_icmp .ne 7, 3) := by decide +kernel
theorem dX14_feed_50 : decode cX14_feed 50 = .ok (.iload_n 3, 1) := by decide +kernel
theorem dX14_feed_51 : decode cX14_feed 51 = .ok (.goto 16, 3) := by decide +kernel
theorem dX14_feed_54 : decode cX14_feed 54 = .ok (.iload 6, 2) := by decide +kernel
theorem dX14_feed_56 : decode cX14_feed 56 = .ok (.iconst 3, 1) := by decide +kernel
theorem dX14_feed_57 : decode cX14_feed 57 = .ok (.if_icmp .ne 8, 3) := by decide +kernel
theorem dX14_feed_60 : decode cX14_feed 60 = .ok (.iload 4, 2) := by decide +kernel
theorem dX14_feed_62 : decode cX14_feed 62 = .ok (.goto 5, 3) := by decide +kernel
theorem dX14_feed_65 : decode cX14_feed 65 = .ok (.iload 5, 2) := by decide +kernel
theorem dX14_feed_67 : decode cX14_feed 67 = .ok (.istore 7, 2) := by decide +kernel
theorem dX14_feed_69 : decode cX14_feed 69 = .ok (.bipush 24, 2) := by decide +kernel
theorem dX14_feed_71 : decode cX14_feed 71 = .ok (.istore 8, 2) := by decide +kernel
theorem dX14_feed_73 : decode cX14_feed 73 = .ok (.iload 8, 2) := by decide +kernel
theorem dX14_feed_75 : decode cX14_feed 75 = .ok (.ifCond .lt 34, 3) := by decide +kernel
theorem dX14_feed_78 : decode cX14_feed 78 = .ok (.aload_n 0, 1) := by decide +kernel
theorem dX14_feed_79 : decode cX14_feed 79 = .ok (.getfield 26, 3) := by decide +kernel
theorem dX14_feed_82 : decode cX14_feed 82 = .ok (.aload_n 0, 1) := by decide +kernel
theorem dX14_feed_83 : decode cX14_feed 83 = .ok (.getfield 523, 3) := by decide +kernel
theorem dX14_feed_86 : decode cX14_feed 86 = .ok (.iload 7, 2) := by decide +kernel
theorem dX14_feed_88 : decode cX14_feed 88 = .ok (.iload 8, 2) := by decide +kernel
theorem dX14_feed_90 : decode cX14_feed 90 = .ok (.ishr, 1) := by decide +kernel
theorem dX14_feed_91 : decode cX14_feed 91 = .ok (.i2b, 1) := by decide +kernel
theorem dX14_feed_92 : decode cX14_feed 92 = .ok (.bastore, 1) := by decide +kernel
theorem dX14_feed_93 : decode cX14_feed 93 = .ok (.aload_n 0, 1) := by decide +kernel
theorem dX14_feed_94 : decode cX14_feed 94 = .ok (.dup, 1) := by decide +kernel
theorem dX14_feed_95 : decode cX14_feed 95 = .ok (.getfield 523, 3) := by decide +kernel
theorem dX14_feed_98 : decode cX14_feed 98 = .ok (.iconst 1, 1) := by decide +kernel
theorem dX14_feed_99 : decode cX14_feed 99 = .ok (.iadd, 1) := by decide +kernel
theorem dX14_feed_100 : decode cX14_feed 100 = .ok (.putfield 523, 3) := by decide +kernel
theorem dX14_feed_103 : decode cX14_feed 103 = .ok (.iinc 8 (-8), 3) := by decide +kernel
theorem dX14_feed_106 : decode cX14_feed 106 = .ok (.goto (-33), 3) := by decide +kernel
theorem dX14_feed_109 : decode cX14_feed 109 = .ok (.iinc 6 1, 3) := by decide +kernel
theorem dX14_feed_112 : decode cX14_feed 112 = .ok (.goto (-93), 3) := by decide +kernel
theorem dX14_feed_115 : decode cX14_feed 115 = .ok (.aload_n 0, 1) := by decide +kernel
theorem dX14_feed_116 : decode cX14_feed 116 = .ok (.getfield 523, 3) := by decide +kernel
theorem dX14_feed_119 : decode cX14_feed 119 = .ok (.ireturn, 1) := by decide +kernel
theorem dX14_end_0 : decode cX14_end 0 = .ok (.iload_n 1, 1) := by decide +kernel
theorem dX14_end_1 : decode cX14_end 1 = .ok (.ifCond .lt 11, 3) := by decide +kernel
theorem dX14_end_4 : decode cX14_end 4 = .ok (.iload_n 1, 1) := by decide +kernel
theorem dX14_end_5 : decode cX14_end 5 = .ok (.aload_n 0, 1) := by decide +kernel
theorem dX14_end_6 : decode cX14_end 6 = .ok (.getfield 523, 3) := by decide +kernel
theorem dX14_end_9 : decode cX14_end 9 = .ok (.if_icmp .le 5, 3) := by decide +kernel
theorem dX14_end_12 : decode cX14_end 12 = .ok (.iconst (-1), 1) := by decide +kernel
theorem dX14_end_13 : decode cX14_end 13 = .ok (.ireturn, 1) := by decide +kernel
theorem dX14_end_14 : decode cX14_end 14 = .ok (.aload_n 0, 1) := by decide +kernel
theorem dX14_end_15 : decode cX14_end 15 = .ok (.iload_n 1, 1) := by decide +kernel
theorem dX14_end_16 : decode cX14_end 16 = .ok (.putfield 523, 3) := by decide +kernel
theorem dX14_end_19 : decode cX14_end 19 = .ok (.iload_n 1, 1) := by decide +kernel
theorem dX14_end_20 : decode cX14_end 20 = .ok (.ireturn, 1) := by decide +kernel
theorem dX14_fault_0 : decode cX14_fault 0 = .ok (.iload_n 1, 1) := by decide +kernel
theorem dX14_fault_1 : decode cX14_fault 1 = .ok (.ifCond .ne 10, 3) := by decide +kernel
theorem dX14_fault_4 : decode cX14_fault 4 = .ok (.aload_n 0, 1) := by decide +kernel
theorem dX14_fault_5 : decode cX14_fault 5 = .ok (.getfield 102, 3) := by decide +kernel
theorem dX14_fault_8 : decode cX14_fault 8 = .ok (.goto 16, 3) := by decide +kernel
theorem dX14_fault_11 : decode cX14_fault 11 = .ok (.iload_n 1, 1) := by decide +kernel
theorem dX14_fault_12 : decode cX14_fault 12 = .ok (.iconst 1, 1) := by decide +kernel
theorem dX14_fault_13 : decode cX14_fault 13 = .ok (.if_icmp .ne 10, 3) := by decide +kernel
theorem dX14_fault_16 : decode cX14_fault 16 = .ok (.aload_n 0, 1) := by decide +kernel
theorem dX14_fault_17 : decode cX14_fault 17 = .ok (.getfield 30, 3) := by decide +kernel
theorem dX14_fault_20 : decode cX14_fault 20 = .ok (.goto 4, 3) := by decide +kernel
theorem dX14_fault_23 : decode cX14_fault 23 = .ok (.iconst (-1), 1) := by decide +kernel
theorem dX14_fault_24 : decode cX14_fault 24 = .ok (.ireturn, 1) := by decide +kernel
theorem dX14_isClass_0 : decode cX14_isClass 0 = .ok (.iload_n 1, 1) := by decide +kernel
theorem dX14_isClass_1 : decode cX14_isClass 1 = .ok (.i2l, 1) := by decide +kernel
theorem dX14_isClass_2 : decode cX14_isClass 2 = .ok (.lconst 0, 1) := by decide +kernel
theorem dX14_isClass_3 : decode cX14_isClass 3 = .ok (.aload_n 0, 1) := by decide +kernel
theorem dX14_isClass_4 : decode cX14_isClass 4 = .ok (.getfield 19, 3) := by decide +kernel
theorem dX14_isClass_7 : decode cX14_isClass 7 = .ok (.getfield 499, 3) := by decide +kernel
theorem dX14_isClass_10 : decode cX14_isClass 10 = .ok (.iconst 1, 1) := by decide +kernel
theorem dX14_isClass_11 : decode cX14_isClass 11 = .ok (.isub, 1) := by decide +kernel
theorem dX14_isClass_12 : decode cX14_isClass 12 = .ok (.i2l, 1) := by decide +kernel
theorem dX14_isClass_13 : decode cX14_isClass 13 = .ok (.invokestatic 395, 3) := by decide +kernel
theorem dX14_isClass_16 : decode cX14_isClass 16 = .ok (.ireturn, 1) := by decide +kernel
theorem dX14_about_0 : decode cX14_about 0 = .ok (.aload_n 0, 1) := by decide +kernel
theorem dX14_about_1 : decode cX14_about 1 = .ok (.iload_n 1, 1) := by decide +kernel
theorem dX14_about_2 : decode cX14_about 2 = .ok (.invokevirtual 544, 3) := by decide +kernel
theorem dX14_about_5 : decode cX14_about 5 = .ok (.ifCond .ne 5, 3) := by decide +kernel
theorem dX14_about_8 : decode cX14_about 8 = .ok (.iconst (-1), 1) := by decide +kernel
theorem dX14_about_9 : decode cX14_about 9 = .ok (.ireturn, 1) := by decide +kernel
theorem dX14_about_10 : decode cX14_about 10 = .ok (.iload_n 2, 1) := by decide +kernel
theorem dX14_about_11 : decode cX14_about 11 = .ok (.tableswitch 97 0 5 #[37, 47, 57, 67, 77, 87], 37) := by decide +kernel
theorem dX14_about_48 : decode cX14_about 48 = .ok (.aload_n 0, 1) := by decide +kernel
theorem dX14_about_49 : decode cX14_about 49 = .ok (.getfield 19, 3) := by decide +kernel
theorem dX14_about_52 : decode cX14_about 52 = .ok (.getfield 297, 3) := by decide +kernel
theorem dX14_about_55 : decode cX14_about 55 = .ok (.iload_n 1, 1) := by decide +kernel
theorem dX14_about_56 : decode cX14_about 56 = .ok (.iaload, 1) := by decide +kernel
theorem dX14_about_57 : decode cX14_about 57 = .ok (.ireturn, 1) := by decide +kernel
theorem dX14_about_58 : decode cX14_about 58 = .ok (.aload_n 0, 1) := by decide +kernel
theorem dX14_about_59 : decode cX14_about 59 = .ok (.getfield 19, 3) := by decide +kernel
theorem dX14_about_62 : decode cX14_about 62 = .ok (.getfield 390, 3) := by decide +kernel
theorem dX14_about_65 : decode cX14_about 65 = .ok (.iload_n 1, 1) := by decide +kernel
theorem dX14_about_66 : decode cX14_about 66 = .ok (.iaload, 1) := by decide +kernel
theorem dX14_about_67 : decode cX14_about 67 = .ok (.ireturn, 1) := by decide +kernel
theorem dX14_about_68 : decode cX14_about 68 = .ok (.aload_n 0, 1) := by decide +kernel
theorem dX14_about_69 : decode cX14_about 69 = .ok (.getfield 19, 3) := by decide +kernel
theorem dX14_about_72 : decode cX14_about 72 = .ok (.getfield 399, 3) := by decide +kernel
theorem dX14_about_75 : decode cX14_about 75 = .ok (.iload_n 1, 1) := by decide +kernel
theorem dX14_about_76 : decode cX14_about 76 = .ok (.iaload, 1) := by decide +kernel
theorem dX14_about_77 : decode cX14_about 77 = .ok (.ireturn, 1) := by decide +kernel
theorem dX14_about_78 : decode cX14_about 78 = .ok (.aload_n 0, 1) := by decide +kernel
theorem dX14_about_79 : decode cX14_about 79 = .ok (.getfield 19, 3) := by decide +kernel
theorem dX14_about_82 : decode cX14_about 82 = .ok (.getfield 456, 3) := by decide +kernel
theorem dX14_about_85 : decode cX14_about 85 = .ok (.iload_n 1, 1) := by decide +kernel
theorem dX14_about_86 : decode cX14_about 86 = .ok (.iaload, 1) := by decide +kernel
theorem dX14_about_87 : decode cX14_about 87 = .ok (.ireturn, 1) := by decide +kernel
theorem dX14_about_88 : decode cX14_about 88 = .ok (.aload_n 0, 1) := by decide +kernel
theorem dX14_about_89 : decode cX14_about 89 = .ok (.getfield 19, 3) := by decide +kernel
theorem dX14_about_92 : decode cX14_about 92 = .ok (.getfield 419, 3) := by decide +kernel
theorem dX14_about_95 : decode cX14_about 95 = .ok (.iload_n 1, 1) := by decide +kernel
theorem dX14_about_96 : decode cX14_about 96 = .ok (.iaload, 1) := by decide +kernel
theorem dX14_about_97 : decode cX14_about 97 = .ok (.ireturn, 1) := by decide +kernel
theorem dX14_about_98 : decode cX14_about 98 = .ok (.aload_n 0, 1) := by decide +kernel
theorem dX14_about_99 : decode cX14_about 99 = .ok (.getfield 19, 3) := by decide +kernel
theorem dX14_about_102 : decode cX14_about 102 = .ok (.getfield 508, 3) := by decide +kernel
theorem dX14_about_105 : decode cX14_about 105 = .ok (.iload_n 1, 1) := by decide +kernel
theorem dX14_about_106 : decode cX14_about 106 = .ok (.iaload, 1) := by decide +kernel
theorem dX14_about_107 : decode cX14_about 107 = .ok (.ireturn, 1) := by decide +kernel
theorem dX14_about_108 : decode cX14_about 108 = .ok (.iconst (-1), 1) := by decide +kernel
theorem dX14_about_109 : decode cX14_about 109 = .ok (.ireturn, 1) := by decide +kernel
theorem dX14_member_0 : decode cX14_member 0 = .ok (.aload_n 0, 1) := by decide +kernel
theorem dX14_member_1 : decode cX14_member 1 = .ok (.iload_n 1, 1) := by decide +kernel
theorem dX14_member_2 : decode cX14_member 2 = .ok (.invokevirtual 544, 3) := by decide +kernel
theorem dX14_member_5 : decode cX14_member 5 = .ok (.ifCond .eq 24, 3) := by decide +kernel
theorem dX14_member_8 : decode cX14_member 8 = .ok (.iload_n 2, 1) := by decide +kernel
theorem dX14_member_9 : decode cX14_member 9 = .ok (.i2l, 1) := by decide +kernel
theorem dX14_member_10 : decode cX14_member 10 = .ok (.lconst 0, 1) := by decide +kernel
theorem dX14_member_11 : decode cX14_member 11 = .ok (.aload_n 0, 1) := by decide +kernel
theorem dX14_member_12 : decode cX14_member 12 = .ok (.getfield 19, 3) := by decide +kernel
theorem dX14_member_15 : decode cX14_member 15 = .ok (.getfield 456, 3) := by decide +kernel
theorem dX14_member_18 : decode cX14_member 18 = .ok (.iload_n 1, 1) := by decide +kernel
theorem dX14_member_19 : decode cX14_member 19 = .ok (.iaload, 1) := by decide +kernel
theorem dX14_member_20 : decode cX14_member 20 = .ok (.iconst 1, 1) := by decide +kernel
theorem dX14_member_21 : decode cX14_member 21 = .ok (.isub, 1) := by decide +kernel
theorem dX14_member_22 : decode cX14_member 22 = .ok (.i2l, 1) := by decide +kernel
theorem dX14_member_23 : decode cX14_member 23 = .ok (.invokestatic 395, 3) := by decide +kernel
theorem dX14_member_26 : decode cX14_member 26 = .ok (.ifCond .ne 5, 3) := by decide +kernel
theorem dX14_member_29 : decode cX14_member 29 = .ok (.iconst (-1), 1) := by decide +kernel
theorem dX14_member_30 : decode cX14_member 30 = .ok (.ireturn, 1) := by decide +kernel
theorem dX14_member_31 : decode cX14_member 31 = .ok (.aload_n 0, 1) := by decide +kernel
theorem dX14_member_32 : decode cX14_member 32 = .ok (.getfield 19, 3) := by decide +kernel
theorem dX14_member_35 : decode cX14_member 35 = .ok (.getfield 477, 3) := by decide +kernel
theorem dX14_member_38 : decode cX14_member 38 = .ok (.bipush 12, 2) := by decide +kernel
theorem dX14_member_40 : decode cX14_member 40 = .ok (.iload_n 1, 1) := by decide +kernel
theorem dX14_member_41 : decode cX14_member 41 = .ok (.imul, 1) := by decide +kernel
theorem dX14_member_42 : decode cX14_member 42 = .ok (.iload_n 2, 1) := by decide +kernel
theorem dX14_member_43 : decode cX14_member 43 = .ok (.iadd, 1) := by decide +kernel
theorem dX14_member_44 : decode cX14_member 44 = .ok (.iaload, 1) := by decide +kernel
theorem dX14_member_45 : decode cX14_member 45 = .ok (.istore 4, 2) := by decide +kernel
theorem dX14_member_47 : decode cX14_member 47 = .ok (.iload_n 3, 1) := by decide +kernel
theorem dX14_member_48 : decode cX14_member 48 = .ok (.tableswitch 168 0 5 #[40, 51, 62, 73, 138, 157], 40) := by decide +kernel
theorem dX14_member_88 : decode cX14_member 88 = .ok (.aload_n 0, 1) := by decide +kernel
theorem dX14_member_89 : decode cX14_member 89 = .ok (.getfield 19, 3) := by decide +kernel
theorem dX14_member_92 : decode cX14_member 92 = .ok (.getfield 453, 3) := by decide +kernel
theorem dX14_member_95 : decode cX14_member 95 = .ok (.iload 4, 2) := by decide +kernel
theorem dX14_member_97 : decode cX14_member 97 = .ok (.iaload, 1) := by decide +kernel
theorem dX14_member_98 : decode cX14_member 98 = .ok (.ireturn, 1) := by decide +kernel
theorem dX14_member_99 : decode cX14_member 99 = .ok (.aload_n 0, 1) := by decide +kernel
theorem dX14_member_100 : decode cX14_member 100 = .ok (.getfield 19, 3) := by decide +kernel
theorem dX14_member_103 : decode cX14_member 103 = .ok (.getfield 324, 3) := by decide +kernel
theorem dX14_member_106 : decode cX14_member 106 = .ok (.iload 4, 2) := by decide +kernel
theorem dX14_member_108 : decode cX14_member 108 = .ok (.iaload, 1) := by decide +kernel
theorem dX14_member_109 : decode cX14_member 109 = .ok (.ireturn, 1) := by decide +kernel
theorem dX14_member_110 : decode cX14_member 110 = .ok (.aload_n 0, 1) := by decide +kernel
theorem dX14_member_111 : decode cX14_member 111 = .ok (.getfield 19, 3) := by decide +kernel
theorem dX14_member_114 : decode cX14_member 114 = .ok (.getfield 314, 3) := by decide +kernel
theorem dX14_member_117 : decode cX14_member 117 = .ok (.iload 4, 2) := by decide +kernel
theorem dX14_member_119 : decode cX14_member 119 = .ok (.iaload, 1) := by decide +kernel
theorem dX14_member_120 : decode cX14_member 120 = .ok (.ireturn, 1) := by decide +kernel
theorem dX14_member_121 : decode cX14_member 121 = .ok (.iconst 0, 1) := by decide +kernel
theorem dX14_member_122 : decode cX14_member 122 = .ok (.istore 5, 2) := by decide +kernel
theorem dX14_member_124 : decode cX14_member 124 = .ok (.iconst 0, 1) := by decide +kernel
theorem dX14_member_125 : decode cX14_member 125 = .ok (.istore 6, 2) := by decide +kernel
theorem dX14_member_127 : decode cX14_member 127 = .ok (.iload 6, 2) := by decide +kernel
theorem dX14_member_129 : decode cX14_member 129 = .ok (.aload_n 0, 1) := by decide +kernel
theorem dX14_member_130 : decode cX14_member 130 = .ok (.getfield 19, 3) := by decide +kernel
theorem dX14_member_133 : decode cX14_member 133 = .ok (.getfield 330, 3) := by decide +kernel
theorem dX14_member_136 : decode cX14_member 136 = .ok (.if_icmp .ge 47, 3) := by decide +kernel
theorem dX14_member_139 : decode cX14_member 139 = .ok (.iload 5, 2) := by decide +kernel
theorem dX14_member_141 : decode cX14_member 141 = .ok (.aload_n 0, 1) := by decide +kernel
theorem dX14_member_142 : decode cX14_member 142 = .ok (.getfield 19, 3) := by decide +kernel
theorem dX14_member_145 : decode cX14_member 145 = .ok (.getfield 357, 3) := by decide +kernel
theorem dX14_member_148 : decode cX14_member 148 = .ok (.iload 6, 2) := by decide +kernel
theorem dX14_member_150 : decode cX14_member 150 = .ok (.iaload, 1) := by decide +kernel
theorem dX14_member_151 : decode cX14_member 151 = .ok (.iload 4, 2) := by decide +kernel
theorem dX14_member_153 : decode cX14_member 153 = .ok (.if_icmp .ne 20, 3) := by decide +kernel
theorem dX14_member_156 : decode cX14_member 156 = .ok (.aload_n 0, 1) := by decide +kernel
theorem dX14_member_157 : decode cX14_member 157 = .ok (.getfield 19, 3) := by decide +kernel
theorem dX14_member_160 : decode cX14_member 160 = .ok (.getfield 360, 3) := by decide +kernel
theorem dX14_member_163 : decode cX14_member 163 = .ok (.iload 6, 2) := by decide +kernel
theorem dX14_member_165 : decode cX14_member 165 = .ok (.baload, 1) := by decide +kernel
theorem dX14_member_166 : decode cX14_member 166 = .ok (.ifCond .eq 7, 3) := by decide +kernel
theorem dX14_member_169 : decode cX14_member 169 = .ok (.iconst 1, 1) := by decide +kernel
theorem dX14_member_170 : decode cX14_member 170 = .ok (.goto 4, 3) := by decide +kernel
theorem dX14_member_173 : decode cX14_member 173 = .ok (.iconst 0, 1) := by decide +kernel
theorem dX14_member_174 : decode cX14_member 174 = .ok (.iadd, 1) := by decide +kernel
theorem dX14_member_175 : decode cX14_member 175 = .ok (.istore 5, 2) := by decide +kernel
theorem dX14_member_177 : decode cX14_member 177 = .ok (.iinc 6 1, 3) := by decide +kernel
theorem dX14_member_180 : decode cX14_member 180 = .ok (.goto (-53), 3) := by decide +kernel
theorem dX14_member_183 : decode cX14_member 183 = .ok (.iload 5, 2) := by decide +kernel
theorem dX14_member_185 : decode cX14_member 185 = .ok (.ireturn, 1) := by decide +kernel
theorem dX14_member_186 : decode cX14_member 186 = .ok (.aload_n 0, 1) := by decide +kernel
theorem dX14_member_187 : decode cX14_member 187 = .ok (.getfield 19, 3) := by decide +kernel
theorem dX14_member_190 : decode cX14_member 190 = .ok (.getfield 306, 3) := by decide +kernel
theorem dX14_member_193 : decode cX14_member 193 = .ok (.iload 4, 2) := by decide +kernel
theorem dX14_member_195 : decode cX14_member 195 = .ok (.baload, 1) := by decide +kernel
theorem dX14_member_196 : decode cX14_member 196 = .ok (.ifCond .eq 7, 3) := by decide +kernel
theorem dX14_member_199 : decode cX14_member 199 = .ok (.iconst 1, 1) := by decide +kernel
theorem dX14_member_200 : decode cX14_member 200 = .ok (.goto 4, 3) := by decide +kernel
theorem dX14_member_203 : decode cX14_member 203 = .ok (.iconst 0, 1) := by decide +kernel
theorem dX14_member_204 : decode cX14_member 204 = .ok (.ireturn, 1) := by decide +kernel
theorem dX14_member_205 : decode cX14_member 205 = .ok (.aload_n 0, 1) := by decide +kernel
theorem dX14_member_206 : decode cX14_member 206 = .ok (.getfield 19, 3) := by decide +kernel
theorem dX14_member_209 : decode cX14_member 209 = .ok (.getfield 471, 3) := by decide +kernel
theorem dX14_member_212 : decode cX14_member 212 = .ok (.iload 4, 2) := by decide +kernel
theorem dX14_member_214 : decode cX14_member 214 = .ok (.iaload, 1) := by decide +kernel
theorem dX14_member_215 : decode cX14_member 215 = .ok (.ireturn, 1) := by decide +kernel
theorem dX14_member_216 : decode cX14_member 216 = .ok (.iconst (-1), 1) := by decide +kernel
theorem dX14_member_217 : decode cX14_member 217 = .ok (.ireturn, 1) := by decide +kernel
theorem dX14_model_0 : decode cX14_model 0 = .ok (.aload_n 0, 1) := by decide +kernel
theorem dX14_model_1 : decode cX14_model 1 = .ok (.iload_n 1, 1) := by decide +kernel
theorem dX14_model_2 : decode cX14_model 2 = .ok (.invokevirtual 544, 3) := by decide +kernel
theorem dX14_model_5 : decode cX14_model 5 = .ok (.ifCond .eq 16, 3) := by decide +kernel
theorem dX14_model_8 : decode cX14_model 8 = .ok (.iload_n 2, 1) := by decide +kernel
theorem dX14_model_9 : decode cX14_model 9 = .ok (.iconst (-1), 1) := by decide +kernel
theorem dX14_model_10 : decode cX14_model 10 = .ok (.if_icmp .eq 14, 3) := by decide +kernel
theorem dX14_model_13 : decode cX14_model 13 = .ok (.aload_n 0, 1) := by decide +kernel
theorem dX14_model_14 : decode cX14_model 14 = .ok (.iload_n 2, 1) := by decide +kernel
theorem dX14_model_15 : decode cX14_model 15 = .ok (.invokevirtual 544, 3) := by decide +kernel
theorem dX14_model_18 : decode cX14_model 18 = .ok (.ifCond .ne 6, 3) := by decide +kernel
theorem dX14_model_21 : decode cX14_model 21 = .ok (.bipush (-2), 2) := by decide +kernel
theorem dX14_model_23 : decode cX14_model 23 = .ok (.ireturn, 1) := by decide +kernel
theorem dX14_model_24 : decode cX14_model 24 = .ok (.aload_n 0, 1) := by decide +kernel
theorem dX14_model_25 : decode cX14_model 25 = .ok (.getfield 19, 3) := by decide +kernel
theorem dX14_model_28 : decode cX14_model 28 = .ok (.getfield 508, 3) := by decide +kernel
theorem dX14_model_31 : decode cX14_model 31 = .ok (.iload_n 1, 1) := by decide +kernel
theorem dX14_model_32 : decode cX14_model 32 = .ok (.iload_n 2, 1) := by decide +kernel
theorem dX14_model_33 : decode cX14_model 33 = .ok (.iastore, 1) := by decide +kernel
theorem dX14_model_34 : decode cX14_model 34 = .ok (.iconst 1, 1) := by decide +kernel
theorem dX14_model_35 : decode cX14_model 35 = .ok (.ireturn, 1) := by decide +kernel
theorem dX14_clear_0 : decode cX14_clear 0 = .ok (.aload_n 0, 1) := by decide +kernel
theorem dX14_clear_1 : decode cX14_clear 1 = .ok (.getfield 529, 3) := by decide +kernel
theorem dX14_clear_4 : decode cX14_clear 4 = .ok (.istore_n 1, 1) := by decide +kernel
theorem dX14_clear_5 : decode cX14_clear 5 = .ok (.aload_n 0, 1) := by decide +kernel
theorem dX14_clear_6 : decode cX14_clear 6 = .ok (.iconst 0, 1) := by decide +kernel
theorem dX14_clear_7 : decode cX14_clear 7 = .ok (.putfield 529, 3) := by decide +kernel
theorem dX14_clear_10 : decode cX14_clear 10 = .ok (.aload_n 0, 1) := by decide +kernel
theorem dX14_clear_11 : decode cX14_clear 11 = .ok (.iconst 0, 1) := by decide +kernel
theorem dX14_clear_12 : decode cX14_clear 12 = .ok (.putfield 532, 3) := by decide +kernel
theorem dX14_clear_15 : decode cX14_clear 15 = .ok (.aload_n 0, 1) := by decide +kernel
theorem dX14_clear_16 : decode cX14_clear 16 = .ok (.iconst 1, 1) := by decide +kernel
theorem dX14_clear_17 : decode cX14_clear 17 = .ok (.putfield 668, 3) := by decide +kernel
theorem dX14_clear_20 : decode cX14_clear 20 = .ok (.iload_n 1, 1) := by decide +kernel
theorem dX14_clear_21 : decode cX14_clear 21 = .ok (.ireturn, 1) := by decide +kernel
theorem dX14_make_0 : decode cX14_make 0 = .ok (.aload_n 0, 1) := by decide +kernel
theorem dX14_make_1 : decode cX14_make 1 = .ok (.iload_n 1, 1) := by decide +kernel
theorem dX14_make_2 : decode cX14_make 2 = .ok (.invokevirtual 544, 3) := by decide +kernel
theorem dX14_make_5 : decode cX14_make 5 = .ok (.ifCond .ne 6, 3) := by decide +kernel
theorem dX14_make_8 : decode cX14_make 8 = .ok (.bipush (-2), 2) := by decide +kernel
theorem dX14_make_10 : decode cX14_make 10 = .ok (.ireturn, 1) := by decide +kernel
theorem dX14_make_11 : decode cX14_make 11 = .ok (.aload_n 0, 1) := by decide +kernel
theorem dX14_make_12 : decode cX14_make 12 = .ok (.getfield 529, 3) := by decide +kernel
theorem dX14_make_15 : decode cX14_make 15 = .ok (.bipush 10, 2) := by decide +kernel
theorem dX14_make_17 : decode cX14_make 17 = .ok (.if_icmp .eq 11, 3) := by decide +kernel
theorem dX14_make_20 : decode cX14_make 20 = .ok (.aload_n 0, 1) := by decide +kernel
theorem dX14_make_21 : decode cX14_make 21 = .ok (.getfield 532, 3) := by decide +kernel
theorem dX14_make_24 : decode cX14_make 24 = .ok (.iconst 3, 1) := by decide +kernel
theorem dX14_make_25 : decode cX14_make 25 = .ok (.if_icmp .ne 6, 3) := by decide +kernel
theorem dX14_make_28 : decode cX14_make 28 = .ok (.bipush (-3), 2) := by decide +kernel
theorem dX14_make_30 : decode cX14_make 30 = .ok (.ireturn, 1) := by decide +kernel
theorem dX14_make_31 : decode cX14_make 31 = .ok (.aload_n 0, 1) := by decide +kernel
theorem dX14_make_32 : decode cX14_make 32 = .ok (.iconst 1, 1) := by decide +kernel
theorem dX14_make_33 : decode cX14_make 33 = .ok (.putfield 668, 3) := by decide +kernel
theorem dX14_make_36 : decode cX14_make 36 = .ok (.aload_n 0, 1) := by decide +kernel
theorem dX14_make_37 : decode cX14_make 37 = .ok (.iload_n 1, 1) := by decide +kernel
theorem dX14_make_38 : decode cX14_make 38 = .ok (.invokevirtual 677, 3) := by decide +kernel
theorem dX14_make_41 : decode cX14_make 41 = .ok (.aload_n 0, 1) := by decide +kernel
theorem dX14_make_42 : decode cX14_make 42 = .ok (.getfield 532, 3) := by decide +kernel
theorem dX14_make_45 : decode cX14_make 45 = .ok (.iconst 1, 1) := by decide +kernel
theorem dX14_make_46 : decode cX14_make 46 = .ok (.isub, 1) := by decide +kernel
theorem dX14_make_47 : decode cX14_make 47 = .ok (.ireturn, 1) := by decide +kernel
theorem dX14_call_0 : decode cX14_call 0 = .ok (.iload_n 1, 1) := by decide +kernel
theorem dX14_call_1 : decode cX14_call 1 = .ok (.i2l, 1) := by decide +kernel
theorem dX14_call_2 : decode cX14_call 2 = .ok (.lconst 0, 1) := by decide +kernel
theorem dX14_call_3 : decode cX14_call 3 = .ok (.aload_n 0, 1) := by decide +kernel
theorem dX14_call_4 : decode cX14_call 4 = .ok (.getfield 532, 3) := by decide +kernel
theorem dX14_call_7 : decode cX14_call 7 = .ok (.iconst 1, 1) := by decide +kernel
theorem dX14_call_8 : decode cX14_call 8 = .ok (.isub, 1) := by decide +kernel
theorem dX14_call_9 : decode cX14_call 9 = .ok (.i2l, 1) := by decide +kernel
theorem dX14_call_10 : decode cX14_call 10 = .ok (.invokestatic 395, 3) := by decide +kernel
theorem dX14_call_13 : decode cX14_call 13 = .ok (.ifCond .ne 6, 3) := by decide +kernel
theorem dX14_call_16 : decode cX14_call 16 = .ok (.bipush (-2), 2) := by decide +kernel
theorem dX14_call_18 : decode cX14_call 18 = .ok (.ireturn, 1) := by decide +kernel
theorem dX14_call_19 : decode cX14_call 19 = .ok (.aload_n 0, 1) := by decide +kernel
theorem dX14_call_20 : decode cX14_call 20 = .ok (.getfield 78, 3) := by decide +kernel
theorem dX14_call_23 : decode cX14_call 23 = .ok (.iload_n 1, 1) := by decide +kernel
theorem dX14_call_24 : decode cX14_call 24 = .ok (.iaload, 1) := by decide +kernel
theorem dX14_call_25 : decode cX14_call 25 = .ok (.istore 6, 2) := by decide +kernel
theorem dX14_call_27 : decode cX14_call 27 = .ok (.iload_n 2, 1) := by decide +kernel
theorem dX14_call_28 : decode cX14_call 28 = .ok (.i2l, 1) := by decide +kernel
theorem dX14_call_29 : decode cX14_call 29 = .ok (.lconst 0, 1) := by decide +kernel
theorem dX14_call_30 : decode cX14_call 30 = .ok (.aload_n 0, 1) := by decide +kernel
theorem dX14_call_31 : decode cX14_call 31 = .ok (.getfield 19, 3) := by decide +kernel
theorem dX14_call_34 : decode cX14_call 34 = .ok (.getfield 456, 3) := by decide +kernel
theorem dX14_call_37 : decode cX14_call 37 = .ok (.iload 6, 2) := by decide +kernel
theorem dX14_call_39 : decode cX14_call 39 = .ok (.iaload, 1) := by decide +kernel
theorem dX14_call_40 : decode cX14_call 40 = .ok (.iconst 1, 1) := by decide +kernel
theorem dX14_call_41 : decode cX14_call 41 = .ok (.isub, 1) := by decide +kernel
theorem dX14_call_42 : decode cX14_call 42 = .ok (.i2l, 1) := by decide +kernel
theorem dX14_call_43 : decode cX14_call 43 = .ok (.invokestatic 395, 3) := by decide +kernel
theorem dX14_call_46 : decode cX14_call 46 = .ok (.ifCond .ne 6, 3) := by decide +kernel
theorem dX14_call_49 : decode cX14_call 49 = .ok (.bipush (-2), 2) := by decide +kernel
theorem dX14_call_51 : decode cX14_call 51 = .ok (.ireturn, 1) := by decide +kernel
theorem dX14_call_52 : decode cX14_call 52 = .ok (.aload_n 0, 1) := by decide +kernel
theorem dX14_call_53 : decode cX14_call 53 = .ok (.getfield 19, 3) := by decide +kernel
theorem dX14_call_56 : decode cX14_call 56 = .ok (.getfield 477, 3) := by decide +kernel
theorem dX14_call_59 : decode cX14_call 59 = .ok (.bipush 12, 2) := by decide +kernel
theorem dX14_call_61 : decode cX14_call 61 = .ok (.iload 6, 2) := by decide +kernel
theorem dX14_call_63 : decode cX14_call 63 = .ok (.imul, 1) := by decide +kernel
theorem dX14_call_64 : decode cX14_call 64 = .ok (.iload_n 2, 1) := by decide +kernel
theorem dX14_call_65 : decode cX14_call 65 = .ok (.iadd, 1) := by decide +kernel
theorem dX14_call_66 : decode cX14_call 66 = .ok (.iaload, 1) := by decide +kernel
theorem dX14_call_67 : decode cX14_call 67 = .ok (.istore 7, 2) := by decide +kernel
theorem dX14_call_69 : decode cX14_call 69 = .ok (.aload_n 0, 1) := by decide +kernel
theorem dX14_call_70 : decode cX14_call 70 = .ok (.iload 7, 2) := by decide +kernel
theorem dX14_call_72 : decode cX14_call 72 = .ok (.iconst 0, 1) := by decide +kernel
theorem dX14_call_73 : decode cX14_call 73 = .ok (.iload_n 3, 1) := by decide +kernel
theorem dX14_call_74 : decode cX14_call 74 = .ok (.invokevirtual 680, 3) := by decide +kernel
theorem dX14_call_77 : decode cX14_call 77 = .ok (.ifCond .eq 27, 3) := by decide +kernel
theorem dX14_call_80 : decode cX14_call 80 = .ok (.aload_n 0, 1) := by decide +kernel
theorem dX14_call_81 : decode cX14_call 81 = .ok (.iload 7, 2) := by decide +kernel
theorem dX14_call_83 : decode cX14_call 83 = .ok (.iconst 1, 1) := by decide +kernel
theorem dX14_call_84 : decode cX14_call 84 = .ok (.iload 4, 2) := by decide +kernel
theorem dX14_call_86 : decode cX14_call 86 = .ok (.invokevirtual 680, 3) := by decide +kernel
theorem dX14_call_89 : decode cX14_call 89 = .ok (.ifCond .eq 15, 3) := by decide +kernel
theorem dX14_call_92 : decode cX14_call 92 = .ok (.aload_n 0, 1) := by decide +kernel
theorem dX14_call_93 : decode cX14_call 93 = .ok (.iload 7, 2) := by decide +kernel
theorem dX14_call_95 : decode cX14_call 95 = .ok (.iconst 2, 1) := by decide +kernel
theorem dX14_call_96 : decode cX14_call 96 = .ok (.iload 5, 2) := by decide +kernel
theorem dX14_call_98 : decode cX14_call 98 = .ok (.invokevirtual 680, 3) := by decide +kernel
theorem dX14_call_101 : decode cX14_call 101 = .ok (.ifCond .ne 6, 3) := by decide +kernel
theorem dX14_call_104 : decode cX14_call 104 = .ok (.bipush (-2), 2) := by decide +kernel
theorem dX14_call_106 : decode cX14_call 106 = .ok (.ireturn, 1) := by decide +kernel
theorem dX14_call_107 : decode cX14_call 107 = .ok (.aload_n 0, 1) := by decide +kernel
theorem dX14_call_108 : decode cX14_call 108 = .ok (.getfield 529, 3) := by decide +kernel
theorem dX14_call_111 : decode cX14_call 111 = .ok (.bipush 10, 2) := by decide +kernel
theorem dX14_call_113 : decode cX14_call 113 = .ok (.if_icmp .ne 6, 3) := by decide +kernel
theorem dX14_call_116 : decode cX14_call 116 = .ok (.bipush (-3), 2) := by decide +kernel
theorem dX14_call_118 : decode cX14_call 118 = .ok (.ireturn, 1) := by decide +kernel
theorem dX14_call_119 : decode cX14_call 119 = .ok (.aload_n 0, 1) := by decide +kernel
theorem dX14_call_120 : decode cX14_call 120 = .ok (.iconst 1, 1) := by decide +kernel
theorem dX14_call_121 : decode cX14_call 121 = .ok (.putfield 668, 3) := by decide +kernel
theorem dX14_call_124 : decode cX14_call 124 = .ok (.aload_n 0, 1) := by decide +kernel
theorem dX14_call_125 : decode cX14_call 125 = .ok (.iload_n 1, 1) := by decide +kernel
theorem dX14_call_126 : decode cX14_call 126 = .ok (.iload_n 2, 1) := by decide +kernel
theorem dX14_call_127 : decode cX14_call 127 = .ok (.iload_n 3, 1) := by decide +kernel
theorem dX14_call_128 : decode cX14_call 128 = .ok (.iload 4, 2) := by decide +kernel
theorem dX14_call_130 : decode cX14_call 130 = .ok (.iload 5, 2) := by decide +kernel
theorem dX14_call_132 : decode cX14_call 132 = .ok (.invokevirtual 683, 3) := by decide +kernel
theorem dX14_call_135 : decode cX14_call 135 = .ok (.aload_n 0, 1) := by decide +kernel
theorem dX14_call_136 : decode cX14_call 136 = .ok (.getfield 529, 3) := by decide +kernel
theorem dX14_call_139 : decode cX14_call 139 = .ok (.ireturn, 1) := by decide +kernel
theorem dX14_run_0 : decode cX14_run 0 = .ok (.aload_n 0, 1) := by decide +kernel
theorem dX14_run_1 : decode cX14_run 1 = .ok (.getfield 529, 3) := by decide +kernel
theorem dX14_run_4 : decode cX14_run 4 = .ok (.ifCond .ne 8, 3) := by decide +kernel
theorem dX14_run_7 : decode cX14_run 7 = .ok (.bipush (-2), 2) := by decide +kernel
theorem dX14_run_9 : decode cX14_run 9 = .ok (.goto 7, 3) := by decide +kernel
theorem dX14_run_12 : decode cX14_run 12 = .ok (.aload_n 0, 1) := by decide +kernel
theorem dX14_run_13 : decode cX14_run 13 = .ok (.invokevirtual 687, 3) := by decide +kernel
theorem dX14_run_16 : decode cX14_run 16 = .ok (.ireturn, 1) := by decide +kernel
theorem dX14_draw_0 : decode cX14_draw 0 = .ok (.aload_n 0, 1) := by decide +kernel
theorem dX14_draw_1 : decode cX14_draw 1 = .ok (.iload_n 1, 1) := by decide +kernel
theorem dX14_draw_2 : decode cX14_draw 2 = .ok (.invokevirtual 544, 3) := by decide +kernel
theorem dX14_draw_5 : decode cX14_draw 5 = .ok (.ifCond .eq 15, 3) := by decide +kernel
theorem dX14_draw_8 : decode cX14_draw 8 = .ok (.iload_n 3, 1) := by decide +kernel
theorem dX14_draw_9 : decode cX14_draw 9 = .ok (.i2l, 1) := by decide +kernel
theorem dX14_draw_10 : decode cX14_draw 10 = .ok (.lconst 1, 1) := by decide +kernel
theorem dX14_draw_11 : decode cX14_draw 11 = .ok (.ldc2_w 703, 3) := by decide +kernel
theorem dX14_draw_14 : decode cX14_draw 14 = .ok (.invokestatic 395, 3) := by decide +kernel
theorem dX14_draw_17 : decode cX14_draw 17 = .ok (.ifCond .ne 6, 3) := by decide +kernel
theorem dX14_draw_20 : decode cX14_draw 20 = .ok (.bipush (-2), 2) := by decide +kernel
theorem dX14_draw_22 : decode cX14_draw 22 = .ok (.ireturn, 1) := by decide +kernel
theorem dX14_draw_23 : decode cX14_draw 23 = .ok (.aload_n 0, 1) := by decide +kernel
theorem dX14_draw_24 : decode cX14_draw 24 = .ok (.iconst 0, 1) := by decide +kernel
theorem dX14_draw_25 : decode cX14_draw 25 = .ok (.putfield 538, 3) := by decide +kernel
theorem dX14_draw_28 : decode cX14_draw 28 = .ok (.aload_n 0, 1) := by decide +kernel
theorem dX14_draw_29 : decode cX14_draw 29 = .ok (.iconst 0, 1) := by decide +kernel
theorem dX14_draw_30 : decode cX14_draw 30 = .ok (.putfield 541, 3) := by decide +kernel
theorem dX14_draw_33 : decode cX14_draw 33 = .ok (.iconst 0, 1) := by decide +kernel
theorem dX14_draw_34 : decode cX14_draw 34 = .ok (.istore 4, 2) := by decide +kernel
theorem dX14_draw_36 : decode cX14_draw 36 = .ok (.iload 4, 2) := by decide +kernel
theorem dX14_draw_38 : decode cX14_draw 38 = .ok (.iload_n 3, 1) := by decide +kernel
theorem dX14_draw_39 : decode cX14_draw 39 = .ok (.if_icmp .ge 38, 3) := by decide +kernel
theorem dX14_draw_42 : decode cX14_draw 42 = .ok (.aload_n 0, 1) := by decide +kernel
theorem dX14_draw_43 : decode cX14_draw 43 = .ok (.iload_n 2, 1) := by decide +kernel
theorem dX14_draw_44 : decode cX14_draw 44 = .ok (.sipush 7919, 3) := by decide +kernel
theorem dX14_draw_47 : decode cX14_draw 47 = .ok (.iload 4, 2) := by decide +kernel
theorem dX14_draw_49 : decode cX14_draw 49 = .ok (.imul, 1) := by decide +kernel
theorem dX14_draw_50 : decode cX14_draw 50 = .ok (.iadd, 1) := by decide +kernel
theorem dX14_draw_51 : decode cX14_draw 51 = .ok (.putfield 691, 3) := by decide +kernel
theorem dX14_draw_54 : decode cX14_draw 54 = .ok (.aload_n 0, 1) := by decide +kernel
theorem dX14_draw_55 : decode cX14_draw 55 = .ok (.iload_n 1, 1) := by decide +kernel
theorem dX14_draw_56 : decode cX14_draw 56 = .ok (.invokevirtual 705, 3) := by decide +kernel
theorem dX14_draw_59 : decode cX14_draw 59 = .ok (.aload_n 0, 1) := by decide +kernel
theorem dX14_draw_60 : decode cX14_draw 60 = .ok (.invokevirtual 708, 3) := by decide +kernel
theorem dX14_draw_63 : decode cX14_draw 63 = .ok (.ifCond .eq 8, 3) := by decide +kernel
theorem dX14_draw_66 : decode cX14_draw 66 = .ok (.aload_n 0, 1) := by decide +kernel
theorem dX14_draw_67 : decode cX14_draw 67 = .ok (.getfield 618, 3) := by decide +kernel
theorem dX14_draw_70 : decode cX14_draw 70 = .ok (.ireturn, 1) := by decide +kernel
theorem dX14_draw_71 : decode cX14_draw 71 = .ok (.iinc 4 1, 3) := by decide +kernel
theorem dX14_draw_74 : decode cX14_draw 74 = .ok (.goto (-38), 3) := by decide +kernel
theorem dX14_draw_77 : decode cX14_draw 77 = .ok (.iconst 0, 1) := by decide +kernel
theorem dX14_draw_78 : decode cX14_draw 78 = .ok (.ireturn, 1) := by decide +kernel
theorem dX14_all_0 : decode cX14_all 0 = .ok (.aload_n 0, 1) := by decide +kernel
theorem dX14_all_1 : decode cX14_all 1 = .ok (.iload_n 1, 1) := by decide +kernel
theorem dX14_all_2 : decode cX14_all 2 = .ok (.invokevirtual 544, 3) := by decide +kernel
theorem dX14_all_5 : decode cX14_all 5 = .ok (.ifCond .eq 15, 3) := by decide +kernel
theorem dX14_all_8 : decode cX14_all 8 = .ok (.iload_n 2, 1) := by decide +kernel
theorem dX14_all_9 : decode cX14_all 9 = .ok (.i2l, 1) := by decide +kernel
theorem dX14_all_10 : decode cX14_all 10 = .ok (.lconst 1, 1) := by decide +kernel
theorem dX14_all_11 : decode cX14_all 11 = .ok (.ldc2_w 727, 3) := by decide +kernel
theorem dX14_all_14 : decode cX14_all 14 = .ok (.invokestatic 395, 3) := by decide +kernel
theorem dX14_all_17 : decode cX14_all 17 = .ok (.ifCond .ne 6, 3) := by decide +kernel
theorem dX14_all_20 : decode cX14_all 20 = .ok (.bipush (-2), 2) := by decide +kernel
theorem dX14_all_22 : decode cX14_all 22 = .ok (.ireturn, 1) := by decide +kernel
theorem dX14_all_23 : decode cX14_all 23 = .ok (.aload_n 0, 1) := by decide +kernel
theorem dX14_all_24 : decode cX14_all 24 = .ok (.iconst 0, 1) := by decide +kernel
theorem dX14_all_25 : decode cX14_all 25 = .ok (.putfield 538, 3) := by decide +kernel
theorem dX14_all_28 : decode cX14_all 28 = .ok (.aload_n 0, 1) := by decide +kernel
theorem dX14_all_29 : decode cX14_all 29 = .ok (.iconst 0, 1) := by decide +kernel
theorem dX14_all_30 : decode cX14_all 30 = .ok (.putfield 541, 3) := by decide +kernel
theorem dX14_all_33 : decode cX14_all 33 = .ok (.aload_n 0, 1) := by decide +kernel
theorem dX14_all_34 : decode cX14_all 34 = .ok (.iconst 0, 1) := by decide +kernel
theorem dX14_all_35 : decode cX14_all 35 = .ok (.putfield 711, 3) := by decide +kernel
theorem dX14_all_38 : decode cX14_all 38 = .ok (.iconst 1, 1) := by decide +kernel
theorem dX14_all_39 : decode cX14_all 39 = .ok (.istore_n 3, 1) := by decide +kernel
theorem dX14_all_40 : decode cX14_all 40 = .ok (.iload_n 3, 1) := by decide +kernel
theorem dX14_all_41 : decode cX14_all 41 = .ok (.iload_n 2, 1) := by decide +kernel
theorem dX14_all_42 : decode cX14_all 42 = .ok (.if_icmp .gt 41, 3) := by decide +kernel
theorem dX14_all_45 : decode cX14_all 45 = .ok (.aload_n 0, 1) := by decide +kernel
theorem dX14_all_46 : decode cX14_all 46 = .ok (.invokevirtual 697, 3) := by decide +kernel
theorem dX14_all_49 : decode cX14_all 49 = .ok (.istore 4, 2) := by decide +kernel
theorem dX14_all_51 : decode cX14_all 51 = .ok (.aload_n 0, 1) := by decide +kernel
theorem dX14_all_52 : decode cX14_all 52 = .ok (.iload_n 1, 1) := by decide +kernel
theorem dX14_all_53 : decode cX14_all 53 = .ok (.iload_n 3, 1) := by decide +kernel
theorem dX14_all_54 : decode cX14_all 54 = .ok (.invokevirtual 717, 3) := by decide +kernel
theorem dX14_all_57 : decode cX14_all 57 = .ok (.ifCond .ne 6, 3) := by decide +kernel
theorem dX14_all_60 : decode cX14_all 60 = .ok (.goto 17, 3) := by decide +kernel
theorem dX14_all_63 : decode cX14_all 63 = .ok (.aload_n 0, 1) := by decide +kernel
theorem dX14_all_64 : decode cX14_all 64 = .ok (.getfield 711, 3) := by decide +kernel
theorem dX14_all_67 : decode cX14_all 67 = .ok (.ifCond .le 8, 3) := by decide +kernel
theorem dX14_all_70 : decode cX14_all 70 = .ok (.aload_n 0, 1) := by decide +kernel
theorem dX14_all_71 : decode cX14_all 71 = .ok (.getfield 711, 3) := by decide +kernel
theorem dX14_all_74 : decode cX14_all 74 = .ok (.ireturn, 1) := by decide +kernel
theorem dX14_all_75 : decode cX14_all 75 = .ok (.iload_n 2, 1) := by decide +kernel
theorem dX14_all_76 : decode cX14_all 76 = .ok (.istore_n 3, 1) := by decide +kernel
theorem dX14_all_77 : decode cX14_all 77 = .ok (.iinc 3 1, 3) := by decide +kernel
theorem dX14_all_80 : decode cX14_all 80 = .ok (.goto (-40), 3) := by decide +kernel
theorem dX14_all_83 : decode cX14_all 83 = .ok (.aload_n 0, 1) := by decide +kernel
theorem dX14_all_84 : decode cX14_all 84 = .ok (.invokevirtual 729, 3) := by decide +kernel
theorem dX14_all_87 : decode cX14_all 87 = .ok (.iconst 0, 1) := by decide +kernel
theorem dX14_all_88 : decode cX14_all 88 = .ok (.ireturn, 1) := by decide +kernel
theorem dX14_tried_0 : decode cX14_tried 0 = .ok (.aload_n 0, 1) := by decide +kernel
theorem dX14_tried_1 : decode cX14_tried 1 = .ok (.getfield 538, 3) := by decide +kernel
theorem dX14_tried_4 : decode cX14_tried 4 = .ok (.ireturn, 1) := by decide +kernel
theorem dX14_cut_0 : decode cX14_cut 0 = .ok (.aload_n 0, 1) := by decide +kernel
theorem dX14_cut_1 : decode cX14_cut 1 = .ok (.getfield 541, 3) := by decide +kernel
theorem dX14_cut_4 : decode cX14_cut 4 = .ok (.ireturn, 1) := by decide +kernel
theorem dX14_shrink_0 : decode cX14_shrink 0 = .ok (.aload_n 0, 1) := by decide +kernel
theorem dX14_shrink_1 : decode cX14_shrink 1 = .ok (.getfield 618, 3) := by decide +kernel
theorem dX14_shrink_4 : decode cX14_shrink 4 = .ok (.ifCond .le 10, 3) := by decide +kernel
theorem dX14_shrink_7 : decode cX14_shrink 7 = .ok (.aload_n 0, 1) := by decide +kernel
theorem dX14_shrink_8 : decode cX14_shrink 8 = .ok (.getfield 668, 3) := by decide +kernel
theorem dX14_shrink_11 : decode cX14_shrink 11 = .ok (.ifCond .eq 6, 3) := by decide +kernel
theorem dX14_shrink_14 : decode cX14_shrink 14 = .ok (.bipush (-2), 2) := by decide +kernel
theorem dX14_shrink_16 : decode cX14_shrink 16 = .ok (.ireturn, 1) := by decide +kernel
theorem dX14_shrink_17 : decode cX14_shrink 17 = .ok (.aload_n 0, 1) := by decide +kernel
theorem dX14_shrink_18 : decode cX14_shrink 18 = .ok (.getfield 618, 3) := by decide +kernel
theorem dX14_shrink_21 : decode cX14_shrink 21 = .ok (.istore_n 1, 1) := by decide +kernel
theorem dX14_shrink_22 : decode cX14_shrink 22 = .ok (.aload_n 0, 1) := by decide +kernel
theorem dX14_shrink_23 : decode cX14_shrink 23 = .ok (.getfield 81, 3) := by decide +kernel
theorem dX14_shrink_26 : decode cX14_shrink 26 = .ok (.iconst 2, 1) := by decide +kernel
theorem dX14_shrink_27 : decode cX14_shrink 27 = .ok (.iaload, 1) := by decide +kernel
theorem dX14_shrink_28 : decode cX14_shrink 28 = .ok (.istore_n 2, 1) := by decide +kernel
theorem dX14_shrink_29 : decode cX14_shrink 29 = .ok (.iconst 0, 1) := by decide +kernel
theorem dX14_shrink_30 : decode cX14_shrink 30 = .ok (.istore_n 3, 1) := by decide +kernel
theorem dX14_shrink_31 : decode cX14_shrink 31 = .ok (.aload_n 0, 1) := by decide +kernel
theorem dX14_shrink_32 : decode cX14_shrink 32 = .ok (.iload_n 1, 1) := by decide +kernel
theorem dX14_shrink_33 : decode cX14_shrink 33 = .ok (.iload_n 2, 1) := by decide +kernel
theorem dX14_shrink_34 : decode cX14_shrink 34 = .ok (.invokevirtual 749, 3) := by decide +kernel
theorem dX14_shrink_37 : decode cX14_shrink 37 = .ok (.ifCond .eq 9, 3) := by decide +kernel
theorem dX14_shrink_40 : decode cX14_shrink 40 = .ok (.iinc 3 1, 3) := by decide +kernel
theorem dX14_shrink_43 : decode cX14_shrink 43 = .ok (.goto (-12), 3) := by decide +kernel
theorem dX14_shrink_46 : decode cX14_shrink 46 = .ok (.aload_n 0, 1) := by decide +kernel
theorem dX14_shrink_47 : decode cX14_shrink 47 = .ok (.invokevirtual 738, 3) := by decide +kernel
theorem dX14_shrink_50 : decode cX14_shrink 50 = .ok (.aload_n 0, 1) := by decide +kernel
theorem dX14_shrink_51 : decode cX14_shrink 51 = .ok (.invokevirtual 687, 3) := by decide +kernel
theorem dX14_shrink_54 : decode cX14_shrink 54 = .ok (.istore 4, 2) := by decide +kernel
theorem dX14_shrink_56 : decode cX14_shrink 56 = .ok (.iload_n 3, 1) := by decide +kernel
theorem dX14_shrink_57 : decode cX14_shrink 57 = .ok (.ireturn, 1) := by decide +kernel
theorem dX14_verdict_0 : decode cX14_verdict 0 = .ok (.aload_n 0, 1) := by decide +kernel
theorem dX14_verdict_1 : decode cX14_verdict 1 = .ok (.getfield 618, 3) := by decide +kernel
theorem dX14_verdict_4 : decode cX14_verdict 4 = .ok (.ireturn, 1) := by decide +kernel
theorem dX14_condition_0 : decode cX14_condition 0 = .ok (.iload_n 1, 1) := by decide +kernel
theorem dX14_condition_1 : decode cX14_condition 1 = .ok (.i2l, 1) := by decide +kernel
theorem dX14_condition_2 : decode cX14_condition 2 = .ok (.lconst 0, 1) := by decide +kernel
theorem dX14_condition_3 : decode cX14_condition 3 = .ok (.ldc2_w 752, 3) := by decide +kernel
theorem dX14_condition_6 : decode cX14_condition 6 = .ok (.invokestatic 395, 3) := by decide +kernel
theorem dX14_condition_9 : decode cX14_condition 9 = .ok (.ifCond .eq 12, 3) := by decide +kernel
theorem dX14_condition_12 : decode cX14_condition 12 = .ok (.aload_n 0, 1) := by decide +kernel
theorem dX14_condition_13 : decode cX14_condition 13 = .ok (.getfield 81, 3) := by decide +kernel
theorem dX14_condition_16 : decode cX14_condition 16 = .ok (.iload_n 1, 1) := by decide +kernel
theorem dX14_condition_17 : decode cX14_condition 17 = .ok (.iaload, 1) := by decide +kernel
theorem dX14_condition_18 : decode cX14_condition 18 = .ok (.goto 4, 3) := by decide +kernel
theorem dX14_condition_21 : decode cX14_condition 21 = .ok (.iconst (-1), 1) := by decide +kernel
theorem dX14_condition_22 : decode cX14_condition 22 = .ok (.ireturn, 1) := by decide +kernel
theorem dX14_changed_0 : decode cX14_changed 0 = .ok (.iload_n 1, 1) := by decide +kernel
theorem dX14_changed_1 : decode cX14_changed 1 = .ok (.i2l, 1) := by decide +kernel
theorem dX14_changed_2 : decode cX14_changed 2 = .ok (.lconst 0, 1) := by decide +kernel
theorem dX14_changed_3 : decode cX14_changed 3 = .ok (.lconst 1, 1) := by decide +kernel
theorem dX14_changed_4 : decode cX14_changed 4 = .ok (.invokestatic 395, 3) := by decide +kernel
theorem dX14_changed_7 : decode cX14_changed 7 = .ok (.ifCond .eq 12, 3) := by decide +kernel
theorem dX14_changed_10 : decode cX14_changed 10 = .ok (.aload_n 0, 1) := by decide +kernel
theorem dX14_changed_11 : decode cX14_changed 11 = .ok (.getfield 84, 3) := by decide +kernel
theorem dX14_changed_14 : decode cX14_changed 14 = .ok (.iload_n 1, 1) := by decide +kernel
theorem dX14_changed_15 : decode cX14_changed 15 = .ok (.iaload, 1) := by decide +kernel
theorem dX14_changed_16 : decode cX14_changed 16 = .ok (.goto 4, 3) := by decide +kernel
theorem dX14_changed_19 : decode cX14_changed 19 = .ok (.iconst (-1), 1) := by decide +kernel
theorem dX14_changed_20 : decode cX14_changed 20 = .ok (.ireturn, 1) := by decide +kernel
theorem dX14_lettersOf_0 : decode cX14_lettersOf 0 = .ok (.iconst 0, 1) := by decide +kernel
theorem dX14_lettersOf_1 : decode cX14_lettersOf 1 = .ok (.istore_n 2, 1) := by decide +kernel
theorem dX14_lettersOf_2 : decode cX14_lettersOf 2 = .ok (.lload_n 0, 1) := by decide +kernel
theorem dX14_lettersOf_3 : decode cX14_lettersOf 3 = .ok (.lstore_n 3, 1) := by decide +kernel
theorem dX14_lettersOf_4 : decode cX14_lettersOf 4 = .ok (.lload_n 3, 1) := by decide +kernel
theorem dX14_lettersOf_5 : decode cX14_lettersOf 5 = .ok (.lconst 0, 1) := by decide +kernel
theorem dX14_lettersOf_6 : decode cX14_lettersOf 6 = .ok (.lcmp, 1) := by decide +kernel
theorem dX14_lettersOf_7 : decode cX14_lettersOf 7 = .ok (.ifCond .eq 14, 3) := by decide +kernel
theorem dX14_lettersOf_10 : decode cX14_lettersOf 10 = .ok (.iinc 2 1, 3) := by decide +kernel
theorem dX14_lettersOf_13 : decode cX14_lettersOf 13 = .ok (.lload_n 3, 1) := by decide +kernel
theorem dX14_lettersOf_14 : decode cX14_lettersOf 14 = .ok (.bipush 8, 2) := by decide +kernel
theorem dX14_lettersOf_16 : decode cX14_lettersOf 16 = .ok (.lushr, 1) := by decide +kernel
theorem dX14_lettersOf_17 : decode cX14_lettersOf 17 = .ok (.lstore_n 3, 1) := by decide +kernel
theorem dX14_lettersOf_18 : decode cX14_lettersOf 18 = .ok (.goto (-14), 3) := by decide +kernel
theorem dX14_lettersOf_21 : decode cX14_lettersOf 21 = .ok (.iload_n 2, 1) := by decide +kernel
theorem dX14_lettersOf_22 : decode cX14_lettersOf 22 = .ok (.ireturn, 1) := by decide +kernel
theorem dX14_thrown_0 : decode cX14_thrown 0 = .ok (.aload_n 0, 1) := by decide +kernel
theorem dX14_thrown_1 : decode cX14_thrown 1 = .ok (.getfield 556, 3) := by decide +kernel
theorem dX14_thrown_4 : decode cX14_thrown 4 = .ok (.invokestatic 754, 3) := by decide +kernel
theorem dX14_thrown_7 : decode cX14_thrown 7 = .ok (.istore_n 2, 1) := by decide +kernel
theorem dX14_thrown_8 : decode cX14_thrown 8 = .ok (.aload_n 0, 1) := by decide +kernel
theorem dX14_thrown_9 : decode cX14_thrown 9 = .ok (.getfield 559, 3) := by decide +kernel
theorem dX14_thrown_12 : decode cX14_thrown 12 = .ok (.invokestatic 754, 3) := by decide +kernel
theorem dX14_thrown_15 : decode cX14_thrown 15 = .ok (.istore_n 3, 1) := by decide +kernel
theorem dX14_thrown_16 : decode cX14_thrown 16 = .ok (.iload_n 1, 1) := by decide +kernel
theorem dX14_thrown_17 : decode cX14_thrown 17 = .ok (.i2l, 1) := by decide +kernel
theorem dX14_thrown_18 : decode cX14_thrown 18 = .ok (.lconst 0, 1) := by decide +kernel
theorem dX14_thrown_19 : decode cX14_thrown 19 = .ok (.iload_n 2, 1) := by decide +kernel
theorem dX14_thrown_20 : decode cX14_thrown 20 = .ok (.iload_n 3, 1) := by decide +kernel
theorem dX14_thrown_21 : decode cX14_thrown 21 = .ok (.iadd, 1) := by decide +kernel
theorem dX14_thrown_22 : decode cX14_thrown 22 = .ok (.iconst 1, 1) := by decide +kernel
theorem dX14_thrown_23 : decode cX14_thrown 23 = .ok (.isub, 1) := by decide +kernel
theorem dX14_thrown_24 : decode cX14_thrown 24 = .ok (.i2l, 1) := by decide +kernel
theorem dX14_thrown_25 : decode cX14_thrown 25 = .ok (.invokestatic 395, 3) := by decide +kernel
theorem dX14_thrown_28 : decode cX14_thrown 28 = .ok (.ifCond .ne 5, 3) := by decide +kernel
theorem dX14_thrown_31 : decode cX14_thrown 31 = .ok (.iconst (-1), 1) := by decide +kernel
theorem dX14_thrown_32 : decode cX14_thrown 32 = .ok (.ireturn, 1) := by decide +kernel
theorem dX14_thrown_33 : decode cX14_thrown 33 = .ok (.iload_n 1, 1) := by decide +kernel
theorem dX14_thrown_34 : decode cX14_thrown 34 = .ok (.iload_n 2, 1) := by decide +kernel
theorem dX14_thrown_35 : decode cX14_thrown 35 = .ok (.if_icmp .ge 19, 3) := by decide +kernel
theorem dX14_thrown_38 : decode cX14_thrown 38 = .ok (.aload_n 0, 1) := by decide +kernel
theorem dX14_thrown_39 : decode cX14_thrown 39 = .ok (.getfield 556, 3) := by decide +kernel
theorem dX14_thrown_42 : decode cX14_thrown 42 = .ok (.bipush 8, 2) := by decide +kernel
theorem dX14_thrown_44 : decode cX14_thrown 44 = .ok (.iload_n 2, 1) := by decide +kernel
theorem dX14_thrown_45 : decode cX14_thrown 45 = .ok (.iconst 1, 1) := by decide +kernel
theorem dX14_thrown_46 : decode cX14_thrown 46 = .ok (.isub, 1) := by decide +kernel
theorem dX14_thrown_47 : decode cX14_thrown 47 = .ok (.iload_n 1, 1) := by decide +kernel
theorem dX14_thrown_48 : decode cX14_thrown 48 = .ok (.isub, 1) := by decide +kernel
theorem dX14_thrown_49 : decode cX14_thrown 49 = .ok (.imul, 1) := by decide +kernel
theorem dX14_thrown_50 : decode cX14_thrown 50 = .ok (.lshr, 1) := by decide +kernel
theorem dX14_thrown_51 : decode cX14_thrown 51 = .ok (.goto 18, 3) := by decide +kernel
theorem dX14_thrown_54 : decode cX14_thrown 54 = .ok (.aload_n 0, 1) := by decide +kernel
theorem dX14_thrown_55 : decode cX14_thrown 55 = .ok (.getfield 559, 3) := by decide +kernel
theorem dX14_thrown_58 : decode cX14_thrown 58 = .ok (.bipush 8, 2) := by decide +kernel
theorem dX14_thrown_60 : decode cX14_thrown 60 = .ok (.iload_n 2, 1) := by decide +kernel
theorem dX14_thrown_61 : decode cX14_thrown 61 = .ok (.iload_n 3, 1) := by decide +kernel
theorem dX14_thrown_62 : decode cX14_thrown 62 = .ok (.iadd, 1) := by decide +kernel
theorem dX14_thrown_63 : decode cX14_thrown 63 = .ok (.iconst 1, 1) := by decide +kernel
theorem dX14_thrown_64 : decode cX14_thrown 64 = .ok (.isub, 1) := by decide +kernel
theorem dX14_thrown_65 : decode cX14_thrown 65 = .ok (.iload_n 1, 1) := by decide +kernel
theorem dX14_thrown_66 : decode cX14_thrown 66 = .ok (.isub, 1) := by decide +kernel
theorem dX14_thrown_67 : decode cX14_thrown 67 = .ok (.imul, 1) := by decide +kernel
theorem dX14_thrown_68 : decode cX14_thrown 68 = .ok (.lshr, 1) := by decide +kernel
theorem dX14_thrown_69 : decode cX14_thrown 69 = .ok (.ldc2_w 758, 3) := by decide +kernel
theorem dX14_thrown_72 : decode cX14_thrown 72 = .ok (.land, 1) := by decide +kernel
theorem dX14_thrown_73 : decode cX14_thrown 73 = .ok (.l2i, 1) := by decide +kernel
theorem dX14_thrown_74 : decode cX14_thrown 74 = .ok (.ireturn, 1) := by decide +kernel
theorem dX14_row_0 : decode cX14_row 0 = .ok (.aload_n 0, 1) := by decide +kernel
theorem dX14_row_1 : decode cX14_row 1 = .ok (.getfield 529, 3) := by decide +kernel
theorem dX14_row_4 : decode cX14_row 4 = .ok (.ireturn, 1) := by decide +kernel
theorem dX14_told_0 : decode cX14_told 0 = .ok (.iload_n 1, 1) := by decide +kernel
theorem dX14_told_1 : decode cX14_told 1 = .ok (.i2l, 1) := by decide +kernel
theorem dX14_told_2 : decode cX14_told 2 = .ok (.lconst 0, 1) := by decide +kernel
theorem dX14_told_3 : decode cX14_told 3 = .ok (.aload_n 0, 1) := by decide +kernel
theorem dX14_told_4 : decode cX14_told 4 = .ok (.getfield 529, 3) := by decide +kernel
theorem dX14_told_7 : decode cX14_told 7 = .ok (.iconst 1, 1) := by decide +kernel
theorem dX14_told_8 : decode cX14_told 8 = .ok (.isub, 1) := by decide +kernel
theorem dX14_told_9 : decode cX14_told 9 = .ok (.i2l, 1) := by decide +kernel
theorem dX14_told_10 : decode cX14_told 10 = .ok (.invokestatic 395, 3) := by decide +kernel
theorem dX14_told_13 : decode cX14_told 13 = .ok (.ifCond .ne 5, 3) := by decide +kernel
theorem dX14_told_16 : decode cX14_told 16 = .ok (.iconst (-1), 1) := by decide +kernel
theorem dX14_told_17 : decode cX14_told 17 = .ok (.ireturn, 1) := by decide +kernel
theorem dX14_told_18 : decode cX14_told 18 = .ok (.iload_n 2, 1) := by decide +kernel
theorem dX14_told_19 : decode cX14_told 19 = .ok (.tableswitch 82 0 6 #[41, 48, 55, 55, 55, 68, 75], 41) := by decide +kernel
theorem dX14_told_60 : decode cX14_told 60 = .ok (.aload_n 0, 1) := by decide +kernel
theorem dX14_told_61 : decode cX14_told 61 = .ok (.getfield 63, 3) := by decide +kernel
theorem dX14_told_64 : decode cX14_told 64 = .ok (.iload_n 1, 1) := by decide +kernel
theorem dX14_told_65 : decode cX14_told 65 = .ok (.iaload, 1) := by decide +kernel
theorem dX14_told_66 : decode cX14_told 66 = .ok (.ireturn, 1) := by decide +kernel
theorem dX14_told_67 : decode cX14_told 67 = .ok (.aload_n 0, 1) := by decide +kernel
theorem dX14_told_68 : decode cX14_told 68 = .ok (.getfield 66, 3) := by decide +kernel
theorem dX14_told_71 : decode cX14_told 71 = .ok (.iload_n 1, 1) := by decide +kernel
theorem dX14_told_72 : decode cX14_told 72 = .ok (.iaload, 1) := by decide +kernel
theorem dX14_told_73 : decode cX14_told 73 = .ok (.ireturn, 1) := by decide +kernel
theorem dX14_told_74 : decode cX14_told 74 = .ok (.aload_n 0, 1) := by decide +kernel
theorem dX14_told_75 : decode cX14_told 75 = .ok (.getfield 69, 3) := by decide +kernel
theorem dX14_told_78 : decode cX14_told 78 = .ok (.iconst 3, 1) := by decide +kernel
theorem dX14_told_79 : decode cX14_told 79 = .ok (.iload_n 1, 1) := by decide +kernel
theorem dX14_told_80 : decode cX14_told 80 = .ok (.imul, 1) := by decide +kernel
theorem dX14_told_81 : decode cX14_told 81 = .ok (.iload_n 2, 1) := by decide +kernel
theorem dX14_told_82 : decode cX14_told 82 = .ok (.iadd, 1) := by decide +kernel
theorem dX14_told_83 : decode cX14_told 83 = .ok (.iconst 2, 1) := by decide +kernel
theorem dX14_told_84 : decode cX14_told 84 = .ok (.isub, 1) := by decide +kernel
theorem dX14_told_85 : decode cX14_told 85 = .ok (.iaload, 1) := by decide +kernel
theorem dX14_told_86 : decode cX14_told 86 = .ok (.ireturn, 1) := by decide +kernel
theorem dX14_told_87 : decode cX14_told 87 = .ok (.aload_n 0, 1) := by decide +kernel
theorem dX14_told_88 : decode cX14_told 88 = .ok (.getfield 72, 3) := by decide +kernel
theorem dX14_told_91 : decode cX14_told 91 = .ok (.iload_n 1, 1) := by decide +kernel
theorem dX14_told_92 : decode cX14_told 92 = .ok (.iaload, 1) := by decide +kernel
theorem dX14_told_93 : decode cX14_told 93 = .ok (.ireturn, 1) := by decide +kernel
theorem dX14_told_94 : decode cX14_told 94 = .ok (.aload_n 0, 1) := by decide +kernel
theorem dX14_told_95 : decode cX14_told 95 = .ok (.getfield 75, 3) := by decide +kernel
theorem dX14_told_98 : decode cX14_told 98 = .ok (.iload_n 1, 1) := by decide +kernel
theorem dX14_told_99 : decode cX14_told 99 = .ok (.iaload, 1) := by decide +kernel
theorem dX14_told_100 : decode cX14_told 100 = .ok (.ireturn, 1) := by decide +kernel
theorem dX14_told_101 : decode cX14_told 101 = .ok (.iconst (-1), 1) := by decide +kernel
theorem dX14_told_102 : decode cX14_told 102 = .ok (.ireturn, 1) := by decide +kernel
theorem dX14_cell_0 : decode cX14_cell 0 = .ok (.iload_n 1, 1) := by decide +kernel
theorem dX14_cell_1 : decode cX14_cell 1 = .ok (.i2l, 1) := by decide +kernel
theorem dX14_cell_2 : decode cX14_cell 2 = .ok (.lconst 0, 1) := by decide +kernel
theorem dX14_cell_3 : decode cX14_cell 3 = .ok (.aload_n 0, 1) := by decide +kernel
theorem dX14_cell_4 : decode cX14_cell 4 = .ok (.getfield 621, 3) := by decide +kernel
theorem dX14_cell_7 : decode cX14_cell 7 = .ok (.iconst 1, 1) := by decide +kernel
theorem dX14_cell_8 : decode cX14_cell 8 = .ok (.isub, 1) := by decide +kernel
theorem dX14_cell_9 : decode cX14_cell 9 = .ok (.i2l, 1) := by decide +kernel
theorem dX14_cell_10 : decode cX14_cell 10 = .ok (.invokestatic 395, 3) := by decide +kernel
theorem dX14_cell_13 : decode cX14_cell 13 = .ok (.ifCond .eq 44, 3) := by decide +kernel
theorem dX14_cell_16 : decode cX14_cell 16 = .ok (.iload_n 2, 1) := by decide +kernel
theorem dX14_cell_17 : decode cX14_cell 17 = .ok (.i2l, 1) := by decide +kernel
theorem dX14_cell_18 : decode cX14_cell 18 = .ok (.lconst 0, 1) := by decide +kernel
theorem dX14_cell_19 : decode cX14_cell 19 = .ok (.aload_n 0, 1) := by decide +kernel
theorem dX14_cell_20 : decode cX14_cell 20 = .ok (.getfield 19, 3) := by decide +kernel
theorem dX14_cell_23 : decode cX14_cell 23 = .ok (.getfield 399, 3) := by decide +kernel
theorem dX14_cell_26 : decode cX14_cell 26 = .ok (.aload_n 0, 1) := by decide +kernel
theorem dX14_cell_27 : decode cX14_cell 27 = .ok (.getfield 41, 3) := by decide +kernel
theorem dX14_cell_30 : decode cX14_cell 30 = .ok (.iload_n 1, 1) := by decide +kernel
theorem dX14_cell_31 : decode cX14_cell 31 = .ok (.iaload, 1) := by decide +kernel
theorem dX14_cell_32 : decode cX14_cell 32 = .ok (.iaload, 1) := by decide +kernel
theorem dX14_cell_33 : decode cX14_cell 33 = .ok (.iconst 1, 1) := by decide +kernel
theorem dX14_cell_34 : decode cX14_cell 34 = .ok (.isub, 1) := by decide +kernel
theorem dX14_cell_35 : decode cX14_cell 35 = .ok (.i2l, 1) := by decide +kernel
theorem dX14_cell_36 : decode cX14_cell 36 = .ok (.invokestatic 395, 3) := by decide +kernel
theorem dX14_cell_39 : decode cX14_cell 39 = .ok (.ifCond .eq 18, 3) := by decide +kernel
theorem dX14_cell_42 : decode cX14_cell 42 = .ok (.aload_n 0, 1) := by decide +kernel
theorem dX14_cell_43 : decode cX14_cell 43 = .ok (.getfield 45, 3) := by decide +kernel
theorem dX14_cell_46 : decode cX14_cell 46 = .ok (.bipush 24, 2) := by decide +kernel
theorem dX14_cell_48 : decode cX14_cell 48 = .ok (.iload_n 1, 1) := by decide +kernel
theorem dX14_cell_49 : decode cX14_cell 49 = .ok (.imul, 1) := by decide +kernel
theorem dX14_cell_50 : decode cX14_cell 50 = .ok (.iload_n 2, 1) := by decide +kernel
theorem dX14_cell_51 : decode cX14_cell 51 = .ok (.iadd, 1) := by decide +kernel
theorem dX14_cell_52 : decode cX14_cell 52 = .ok (.iaload, 1) := by decide +kernel
theorem dX14_cell_53 : decode cX14_cell 53 = .ok (.i2l, 1) := by decide +kernel
theorem dX14_cell_54 : decode cX14_cell 54 = .ok (.goto 6, 3) := by decide +kernel
theorem dX14_cell_57 : decode cX14_cell 57 = .ok (.ldc2_w 762, 3) := by decide +kernel
theorem dX14_cell_60 : decode cX14_cell 60 = .ok (.lreturn, 1) := by decide +kernel
theorem dX14_beside_0 : decode cX14_beside 0 = .ok (.iload_n 1, 1) := by decide +kernel
theorem dX14_beside_1 : decode cX14_beside 1 = .ok (.i2l, 1) := by decide +kernel
theorem dX14_beside_2 : decode cX14_beside 2 = .ok (.lconst 0, 1) := by decide +kernel
theorem dX14_beside_3 : decode cX14_beside 3 = .ok (.aload_n 0, 1) := by decide +kernel
theorem dX14_beside_4 : decode cX14_beside 4 = .ok (.getfield 621, 3) := by decide +kernel
theorem dX14_beside_7 : decode cX14_beside 7 = .ok (.iconst 1, 1) := by decide +kernel
theorem dX14_beside_8 : decode cX14_beside 8 = .ok (.isub, 1) := by decide +kernel
theorem dX14_beside_9 : decode cX14_beside 9 = .ok (.i2l, 1) := by decide +kernel
theorem dX14_beside_10 : decode cX14_beside 10 = .ok (.invokestatic 395, 3) := by decide +kernel
theorem dX14_beside_13 : decode cX14_beside 13 = .ok (.ifCond .ne 7, 3) := by decide +kernel
theorem dX14_beside_16 : decode cX14_beside 16 = .ok (.ldc2_w 762, 3) := by decide +kernel
theorem dX14_beside_19 : decode cX14_beside 19 = .ok (.lreturn, 1) := by decide +kernel
theorem dX14_beside_20 : decode cX14_beside 20 = .ok (.aload_n 0, 1) := by decide +kernel
theorem dX14_beside_21 : decode cX14_beside 21 = .ok (.getfield 41, 3) := by decide +kernel
theorem dX14_beside_24 : decode cX14_beside 24 = .ok (.iconst 3, 1) := by decide +kernel
theorem dX14_beside_25 : decode cX14_beside 25 = .ok (.iload_n 1, 1) := by decide +kernel
theorem dX14_beside_26 : decode cX14_beside 26 = .ok (.iadd, 1) := by decide +kernel
theorem dX14_beside_27 : decode cX14_beside 27 = .ok (.iaload, 1) := by decide +kernel
theorem dX14_beside_28 : decode cX14_beside 28 = .ok (.istore_n 3, 1) := by decide +kernel
theorem dX14_beside_29 : decode cX14_beside 29 = .ok (.iload_n 3, 1) := by decide +kernel
theorem dX14_beside_30 : decode cX14_beside 30 = .ok (.iconst (-1), 1) := by decide +kernel
theorem dX14_beside_31 : decode cX14_beside 31 = .ok (.if_icmp .eq 41, 3) := by decide +kernel
theorem dX14_beside_34 : decode cX14_beside 34 = .ok (.iload_n 2, 1) := by decide +kernel
theorem dX14_beside_35 : decode cX14_beside 35 = .ok (.i2l, 1) := by decide +kernel
theorem dX14_beside_36 : decode cX14_beside 36 = .ok (.lconst 0, 1) := by decide +kernel
theorem dX14_beside_37 : decode cX14_beside 37 = .ok (.aload_n 0, 1) := by decide +kernel
theorem dX14_beside_38 : decode cX14_beside 38 = .ok (.getfield 19, 3) := by decide +kernel
theorem dX14_beside_41 : decode cX14_beside 41 = .ok (.getfield 399, 3) := by decide +kernel
theorem dX14_beside_44 : decode cX14_beside 44 = .ok (.iload_n 3, 1) := by decide +kernel
theorem dX14_beside_45 : decode cX14_beside 45 = .ok (.iaload, 1) := by decide +kernel
theorem dX14_beside_46 : decode cX14_beside 46 = .ok (.iconst 1, 1) := by decide +kernel
theorem dX14_beside_47 : decode cX14_beside 47 = .ok (.isub, 1) := by decide +kernel
theorem dX14_beside_48 : decode cX14_beside 48 = .ok (.i2l, 1) := by decide +kernel
theorem dX14_beside_49 : decode cX14_beside 49 = .ok (.invokestatic 395, 3) := by decide +kernel
theorem dX14_beside_52 : decode cX14_beside 52 = .ok (.ifCond .eq 20, 3) := by decide +kernel
theorem dX14_beside_55 : decode cX14_beside 55 = .ok (.aload_n 0, 1) := by decide +kernel
theorem dX14_beside_56 : decode cX14_beside 56 = .ok (.getfield 45, 3) := by decide +kernel
theorem dX14_beside_59 : decode cX14_beside 59 = .ok (.bipush 24, 2) := by decide +kernel
theorem dX14_beside_61 : decode cX14_beside 61 = .ok (.iconst 3, 1) := by decide +kernel
theorem dX14_beside_62 : decode cX14_beside 62 = .ok (.iload_n 1, 1) := by decide +kernel
theorem dX14_beside_63 : decode cX14_beside 63 = .ok (.iadd, 1) := by decide +kernel
theorem dX14_beside_64 : decode cX14_beside 64 = .ok (.imul, 1) := by decide +kernel
theorem dX14_beside_65 : decode cX14_beside 65 = .ok (.iload_n 2, 1) := by decide +kernel
theorem dX14_beside_66 : decode cX14_beside 66 = .ok (.iadd, 1) := by decide +kernel
theorem dX14_beside_67 : decode cX14_beside 67 = .ok (.iaload, 1) := by decide +kernel
theorem dX14_beside_68 : decode cX14_beside 68 = .ok (.i2l, 1) := by decide +kernel
theorem dX14_beside_69 : decode cX14_beside 69 = .ok (.goto 6, 3) := by decide +kernel
theorem dX14_beside_72 : decode cX14_beside 72 = .ok (.ldc2_w 762, 3) := by decide +kernel
theorem dX14_beside_75 : decode cX14_beside 75 = .ok (.lreturn, 1) := by decide +kernel
theorem dX14_count_0 : decode cX14_count 0 = .ok (.iload_n 1, 1) := by decide +kernel
theorem dX14_count_1 : decode cX14_count 1 = .ok (.tableswitch 57 0 3 #[31, 39, 44, 52], 31) := by decide +kernel
theorem dX14_count_32 : decode cX14_count 32 = .ok (.aload_n 0, 1) := by decide +kernel
theorem dX14_count_33 : decode cX14_count 33 = .ok (.getfield 19, 3) := by decide +kernel
theorem dX14_count_36 : decode cX14_count 36 = .ok (.getfield 499, 3) := by decide +kernel
theorem dX14_count_39 : decode cX14_count 39 = .ok (.ireturn, 1) := by decide +kernel
theorem dX14_count_40 : decode cX14_count 40 = .ok (.aload_n 0, 1) := by decide +kernel
theorem dX14_count_41 : decode cX14_count 41 = .ok (.getfield 523, 3) := by decide +kernel
theorem dX14_count_44 : decode cX14_count 44 = .ok (.ireturn, 1) := by decide +kernel
theorem dX14_count_45 : decode cX14_count 45 = .ok (.aload_n 0, 1) := by decide +kernel
theorem dX14_count_46 : decode cX14_count 46 = .ok (.getfield 19, 3) := by decide +kernel
theorem dX14_count_49 : decode cX14_count 49 = .ok (.getfield 208, 3) := by decide +kernel
theorem dX14_count_52 : decode cX14_count 52 = .ok (.ireturn, 1) := by decide +kernel
theorem dX14_count_53 : decode cX14_count 53 = .ok (.aload_n 0, 1) := by decide +kernel
theorem dX14_count_54 : decode cX14_count 54 = .ok (.getfield 621, 3) := by decide +kernel
theorem dX14_count_57 : decode cX14_count 57 = .ok (.ireturn, 1) := by decide +kernel
theorem dX14_count_58 : decode cX14_count 58 = .ok (.iconst (-1), 1) := by decide +kernel
theorem dX14_count_59 : decode cX14_count 59 = .ok (.ireturn, 1) := by decide +kernel
