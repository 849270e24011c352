theorem dX0_push_0 : decode cX0_push 0 = .ok (.aload_n 0, 1) := by decide +kernel
theorem dX0_push_1 : decode cX0_push 1 = .ok (.getfield 45, 3) := by decide +kernel
theorem dX0_push_4 : decode cX0_push 4 = .ok (.sipush 300, 3) := by decide +kernel
theorem dX0_push_7 : decode cX0_push 7 = .ok (.if_icmp .ge 63, 3) := by decide +kernel
theorem dX0_push_10 : decode cX0_push 10 = .ok (.aload_n 0, 1) := by decide +kernel
theorem dX0_push_11 : decode cX0_push 11 = .ok (.getfield 19, 3) := by decide +kernel
theorem dX0_push_14 : decode cX0_push 14 = .ok (.aload_n 0, 1) := by decide +kernel
theorem dX0_push_15 : decode cX0_push 15 = .ok (.getfield 45, 3) := by decide +kernel
theorem dX0_push_18 : decode cX0_push 18 = .ok (.iload_n 1, 1) := by decide +kernel
theorem dX0_push_19 : decode cX0_push 19 = .ok (.iastore, 1) := by decide +kernel
theorem dX0_push_20 : decode cX0_push 20 = .ok (.aload_n 0, 1) := by decide +kernel
theorem dX0_push_21 : decode cX0_push 21 = .ok (.getfield 23, 3) := by decide +kernel
theorem dX0_push_24 : decode cX0_push 24 = .ok (.aload_n 0, 1) := by decide +kernel
theorem dX0_push_25 : decode cX0_push 25 = .ok (.getfield 45, 3) := by decide +kernel
theorem dX0_push_28 : decode cX0_push 28 = .ok (.iload_n 2, 1) := by decide +kernel
theorem dX0_push_29 : decode cX0_push 29 = .ok (.iastore, 1) := by decide +kernel
theorem dX0_push_30 : decode cX0_push 30 = .ok (.aload_n 0, 1) := by decide +kernel
theorem dX0_push_31 : decode cX0_push 31 = .ok (.getfield 26, 3) := by decide +kernel
theorem dX0_push_34 : decode cX0_push 34 = .ok (.aload_n 0, 1) := by decide +kernel
theorem dX0_push_35 : decode cX0_push 35 = .ok (.getfield 45, 3) := by decide +kernel
theorem dX0_push_38 : decode cX0_push 38 = .ok (.iload_n 3, 1) := by decide +kernel
theorem dX0_push_39 : decode cX0_push 39 = .ok (.iastore, 1) := by decide +kernel
theorem dX0_push_40 : decode cX0_push 40 = .ok (.aload_n 0, 1) := by decide +kernel
theorem dX0_push_41 : decode cX0_push 41 = .ok (.getfield 29, 3) := by decide +kernel
theorem dX0_push_44 : decode cX0_push 44 = .ok (.aload_n 0, 1) := by decide +kernel
theorem dX0_push_45 : decode cX0_push 45 = .ok (.getfield 45, 3) := by decide +kernel
theorem dX0_push_48 : decode cX0_push 48 = .ok (.iconst 0, 1) := by decide +kernel
theorem dX0_push_49 : decode cX0_push 49 = .ok (.iastore, 1) := by decide +kernel
theorem dX0_push_50 : decode cX0_push 50 = .ok (.aload_n 0, 1) := by decide +kernel
theorem dX0_push_51 : decode cX0_push 51 = .ok (.getfield 32, 3) := by decide +kernel
theorem dX0_push_54 : decode cX0_push 54 = .ok (.aload_n 0, 1) := by decide +kernel
theorem dX0_push_55 : decode cX0_push 55 = .ok (.getfield 45, 3) := by decide +kernel
theorem dX0_push_58 : decode cX0_push 58 = .ok (.iconst 0, 1) := by decide +kernel
theorem dX0_push_59 : decode cX0_push 59 = .ok (.iastore, 1) := by decide +kernel
theorem dX0_push_60 : decode cX0_push 60 = .ok (.aload_n 0, 1) := by decide +kernel
theorem dX0_push_61 : decode cX0_push 61 = .ok (.dup, 1) := by decide +kernel
theorem dX0_push_62 : decode cX0_push 62 = .ok (.getfield 45, 3) := by decide +kernel
theorem dX0_push_65 : decode cX0_push 65 = .ok (.iconst 1, 1) := by decide +kernel
theorem dX0_push_66 : decode cX0_push 66 = .ok (.iadd, 1) := by decide +kernel
theorem dX0_push_67 : decode cX0_push 67 = .ok (.putfield 45, 3) := by decide +kernel
theorem dX0_push_70 : decode cX0_push 70 = .ok (.return_, 1) := by decide +kernel
theorem dX0_addWhole_0 : decode cX0_addWhole 0 = .ok (.aload_n 0, 1) := by decide +kernel
theorem dX0_addWhole_1 : decode cX0_addWhole 1 = .ok (.getfield 49, 3) := by decide +kernel
theorem dX0_addWhole_4 : decode cX0_addWhole 4 = .ok (.sipush 300, 3) := by decide +kernel
theorem dX0_addWhole_7 : decode cX0_addWhole 7 = .ok (.if_icmp .ge 23, 3) := by decide +kernel
theorem dX0_addWhole_10 : decode cX0_addWhole 10 = .ok (.aload_n 0, 1) := by decide +kernel
theorem dX0_addWhole_11 : decode cX0_addWhole 11 = .ok (.getfield 35, 3) := by decide +kernel
theorem dX0_addWhole_14 : decode cX0_addWhole 14 = .ok (.aload_n 0, 1) := by decide +kernel
theorem dX0_addWhole_15 : decode cX0_addWhole 15 = .ok (.getfield 49, 3) := by decide +kernel
theorem dX0_addWhole_18 : decode cX0_addWhole 18 = .ok (.iload_n 1, 1) := by decide +kernel
theorem dX0_addWhole_19 : decode cX0_addWhole 19 = .ok (.iastore, 1) := by decide +kernel
theorem dX0_addWhole_20 : decode cX0_addWhole 20 = .ok (.aload_n 0, 1) := by decide +kernel
theorem dX0_addWhole_21 : decode cX0_addWhole 21 = .ok (.dup, 1) := by decide +kernel
theorem dX0_addWhole_22 : decode cX0_addWhole 22 = .ok (.getfield 49, 3) := by decide +kernel
theorem dX0_addWhole_25 : decode cX0_addWhole 25 = .ok (.iconst 1, 1) := by decide +kernel
theorem dX0_addWhole_26 : decode cX0_addWhole 26 = .ok (.iadd, 1) := by decide +kernel
theorem dX0_addWhole_27 : decode cX0_addWhole 27 = .ok (.putfield 49, 3) := by decide +kernel
theorem dX0_addWhole_30 : decode cX0_addWhole 30 = .ok (.aload_n 0, 1) := by decide +kernel
theorem dX0_addWhole_31 : decode cX0_addWhole 31 = .ok (.iconst 0, 1) := by decide +kernel
theorem dX0_addWhole_32 : decode cX0_addWhole 32 = .ok (.putfield 55, 3) := by decide +kernel
theorem dX0_addWhole_35 : decode cX0_addWhole 35 = .ok (.return_, 1) := by decide +kernel
theorem dX0_takeHeight_0 : decode cX0_takeHeight 0 = .ok (.aload_n 0, 1) := by decide +kernel
theorem dX0_takeHeight_1 : decode cX0_takeHeight 1 = .ok (.getfield 49, 3) := by decide +kernel
theorem dX0_takeHeight_4 : decode cX0_takeHeight 4 = .ok (.ifCond .le 13, 3) := by decide +kernel
theorem dX0_takeHeight_7 : decode cX0_takeHeight 7 = .ok (.aload_n 0, 1) := by decide +kernel
theorem dX0_takeHeight_8 : decode cX0_takeHeight 8 = .ok (.dup, 1) := by decide +kernel
theorem dX0_takeHeight_9 : decode cX0_takeHeight 9 = .ok (.getfield 49, 3) := by decide +kernel
theorem dX0_takeHeight_12 : decode cX0_takeHeight 12 = .ok (.iconst 1, 1) := by decide +kernel
theorem dX0_takeHeight_13 : decode cX0_takeHeight 13 = .ok (.isub, 1) := by decide +kernel
theorem dX0_takeHeight_14 : decode cX0_takeHeight 14 = .ok (.putfield 49, 3) := by decide +kernel
theorem dX0_takeHeight_17 : decode cX0_takeHeight 17 = .ok (.aload_n 0, 1) := by decide +kernel
theorem dX0_takeHeight_18 : decode cX0_takeHeight 18 = .ok (.getfield 35, 3) := by decide +kernel
theorem dX0_takeHeight_21 : decode cX0_takeHeight 21 = .ok (.aload_n 0, 1) := by decide +kernel
theorem dX0_takeHeight_22 : decode cX0_takeHeight 22 = .ok (.getfield 49, 3) := by decide +kernel
theorem dX0_takeHeight_25 : decode cX0_takeHeight 25 = .ok (.iaload, 1) := by decide +kernel
theorem dX0_takeHeight_26 : decode cX0_takeHeight 26 = .ok (.ireturn, 1) := by decide +kernel
theorem dX0_readNumber_0 : decode cX0_readNumber 0 = .ok (.aload_n 0, 1) := by decide +kernel
theorem dX0_readNumber_1 : decode cX0_readNumber 1 = .ok (.getfield 44, 3) := by decide +kernel
theorem dX0_readNumber_4 : decode cX0_readNumber 4 = .ok (.iconst 1, 1) := by decide +kernel
theorem dX0_readNumber_5 : decode cX0_readNumber 5 = .ok (.aload_n 0, 1) := by decide +kernel
theorem dX0_readNumber_6 : decode cX0_readNumber 6 = .ok (.getfield 9, 3) := by decide +kernel
theorem dX0_readNumber_9 : decode cX0_readNumber 9 = .ok (.invokevirtual 108, 3) := by decide +kernel
theorem dX0_readNumber_12 : decode cX0_readNumber 12 = .ok (.l2i, 1) := by decide +kernel
theorem dX0_readNumber_13 : decode cX0_readNumber 13 = .ok (.invokevirtual 112, 3) := by decide +kernel
theorem dX0_readNumber_16 : decode cX0_readNumber 16 = .ok (.aload_n 0, 1) := by decide +kernel
theorem dX0_readNumber_17 : decode cX0_readNumber 17 = .ok (.getfield 44, 3) := by decide +kernel
theorem dX0_readNumber_20 : decode cX0_readNumber 20 = .ok (.dup, 1) := by decide +kernel
theorem dX0_readNumber_21 : decode cX0_readNumber 21 = .ok (.getfield 117, 3) := by decide +kernel
theorem dX0_readNumber_24 : decode cX0_readNumber 24 = .ok (.iconst 1, 1) := by decide +kernel
theorem dX0_readNumber_25 : decode cX0_readNumber 25 = .ok (.iadd, 1) := by decide +kernel
theorem dX0_readNumber_26 : decode cX0_readNumber 26 = .ok (.putfield 117, 3) := by decide +kernel
theorem dX0_readNumber_29 : decode cX0_readNumber 29 = .ok (.aload_n 0, 1) := by decide +kernel
theorem dX0_readNumber_30 : decode cX0_readNumber 30 = .ok (.getfield 9, 3) := by decide +kernel
theorem dX0_readNumber_33 : decode cX0_readNumber 33 = .ok (.invokevirtual 120, 3) := by decide +kernel
theorem dX0_readNumber_36 : decode cX0_readNumber 36 = .ok (.aload_n 0, 1) := by decide +kernel
theorem dX0_readNumber_37 : decode cX0_readNumber 37 = .ok (.iconst 1, 1) := by decide +kernel
theorem dX0_readNumber_38 : decode cX0_readNumber 38 = .ok (.invokevirtual 123, 3) := by decide +kernel
theorem dX0_readNumber_41 : decode cX0_readNumber 41 = .ok (.return_, 1) := by decide +kernel
theorem dX0_readResult_0 : decode cX0_readResult 0 = .ok (.aload_n 0, 1) := by decide +kernel
theorem dX0_readResult_1 : decode cX0_readResult 1 = .ok (.getfield 44, 3) := by decide +kernel
theorem dX0_readResult_4 : decode cX0_readResult 4 = .ok (.iconst 5, 1) := by decide +kernel
theorem dX0_readResult_5 : decode cX0_readResult 5 = .ok (.iconst 0, 1) := by decide +kernel
theorem dX0_readResult_6 : decode cX0_readResult 6 = .ok (.invokevirtual 112, 3) := by decide +kernel
theorem dX0_readResult_9 : decode cX0_readResult 9 = .ok (.aload_n 0, 1) := by decide +kernel
theorem dX0_readResult_10 : decode cX0_readResult 10 = .ok (.getfield 44, 3) := by decide +kernel
theorem dX0_readResult_13 : decode cX0_readResult 13 = .ok (.dup, 1) := by decide +kernel
theorem dX0_readResult_14 : decode cX0_readResult 14 = .ok (.getfield 117, 3) := by decide +kernel
theorem dX0_readResult_17 : decode cX0_readResult 17 = .ok (.iconst 1, 1) := by decide +kernel
theorem dX0_readResult_18 : decode cX0_readResult 18 = .ok (.iadd, 1) := by decide +kernel
theorem dX0_readResult_19 : decode cX0_readResult 19 = .ok (.putfield 117, 3) := by decide +kernel
theorem dX0_readResult_22 : decode cX0_readResult 22 = .ok (.aload_n 0, 1) := by decide +kernel
theorem dX0_readResult_23 : decode cX0_readResult 23 = .ok (.getfield 9, 3) := by decide +kernel
theorem dX0_readResult_26 : decode cX0_readResult 26 = .ok (.invokevirtual 120, 3) := by decide +kernel
theorem dX0_readResult_29 : decode cX0_readResult 29 = .ok (.aload_n 0, 1) := by decide +kernel
theorem dX0_readResult_30 : decode cX0_readResult 30 = .ok (.iconst 1, 1) := by decide +kernel
theorem dX0_readResult_31 : decode cX0_readResult 31 = .ok (.invokevirtual 123, 3) := by decide +kernel
theorem dX0_readResult_34 : decode cX0_readResult 34 = .ok (.return_, 1) := by decide +kernel
theorem dX0_openSign_0 : decode cX0_openSign 0 = .ok (.aload_n 0, 1) := by decide +kernel
theorem dX0_openSign_1 : decode cX0_openSign 1 = .ok (.getfield 52, 3) := by decide +kernel
theorem dX0_openSign_4 : decode cX0_openSign 4 = .ok (.bipush 40, 2) := by decide +kernel
theorem dX0_openSign_6 : decode cX0_openSign 6 = .ok (.if_icmp .lt 18, 3) := by decide +kernel
theorem dX0_openSign_9 : decode cX0_openSign 9 = .ok (.aload_n 0, 1) := by decide +kernel
theorem dX0_openSign_10 : decode cX0_openSign 10 = .ok (.getfield 9, 3) := by decide +kernel
theorem dX0_openSign_13 : decode cX0_openSign 13 = .ok (.iconst 4, 1) := by decide +kernel
theorem dX0_openSign_14 : decode cX0_openSign 14 = .ok (.aload_n 0, 1) := by decide +kernel
theorem dX0_openSign_15 : decode cX0_openSign 15 = .ok (.getfield 9, 3) := by decide +kernel
theorem dX0_openSign_18 : decode cX0_openSign 18 = .ok (.invokevirtual 99, 3) := by decide +kernel
theorem dX0_openSign_21 : decode cX0_openSign 21 = .ok (.invokevirtual 102, 3) := by decide +kernel
theorem dX0_openSign_24 : decode cX0_openSign 24 = .ok (.iload_n 1, 1) := by decide +kernel
theorem dX0_openSign_25 : decode cX0_openSign 25 = .ok (.bipush 45, 2) := by decide +kernel
theorem dX0_openSign_27 : decode cX0_openSign 27 = .ok (.if_icmp .ne 8, 3) := by decide +kernel
theorem dX0_openSign_30 : decode cX0_openSign 30 = .ok (.bipush 6, 2) := by decide +kernel
theorem dX0_openSign_32 : decode cX0_openSign 32 = .ok (.goto 5, 3) := by decide +kernel
theorem dX0_openSign_35 : decode cX0_openSign 35 = .ok (.bipush 7, 2) := by decide +kernel
theorem dX0_openSign_37 : decode cX0_openSign 37 = .ok (.istore_n 2, 1) := by decide +kernel
theorem dX0_openSign_38 : decode cX0_openSign 38 = .ok (.aload_n 0, 1) := by decide +kernel
theorem dX0_openSign_39 : decode cX0_openSign 39 = .ok (.iload_n 1, 1) := by decide +kernel
theorem dX0_openSign_40 : decode cX0_openSign 40 = .ok (.bipush 40, 2) := by decide +kernel
theorem dX0_openSign_42 : decode cX0_openSign 42 = .ok (.if_icmp .ne 7, 3) := by decide +kernel
theorem dX0_openSign_45 : decode cX0_openSign 45 = .ok (.iconst 1, 1) := by decide +kernel
theorem dX0_openSign_46 : decode cX0_openSign 46 = .ok (.goto 4, 3) := by decide +kernel
theorem dX0_openSign_49 : decode cX0_openSign 49 = .ok (.iload_n 2, 1) := by decide +kernel
theorem dX0_openSign_50 : decode cX0_openSign 50 = .ok (.aload_n 0, 1) := by decide +kernel
theorem dX0_openSign_51 : decode cX0_openSign 51 = .ok (.getfield 9, 3) := by decide +kernel
theorem dX0_openSign_54 : decode cX0_openSign 54 = .ok (.invokevirtual 99, 3) := by decide +kernel
theorem dX0_openSign_57 : decode cX0_openSign 57 = .ok (.iconst 0, 1) := by decide +kernel
theorem dX0_openSign_58 : decode cX0_openSign 58 = .ok (.invokevirtual 126, 3) := by decide +kernel
theorem dX0_openSign_61 : decode cX0_openSign 61 = .ok (.aload_n 0, 1) := by decide +kernel
theorem dX0_openSign_62 : decode cX0_openSign 62 = .ok (.getfield 44, 3) := by decide +kernel
theorem dX0_openSign_65 : decode cX0_openSign 65 = .ok (.dup, 1) := by decide +kernel
theorem dX0_openSign_66 : decode cX0_openSign 66 = .ok (.getfield 117, 3) := by decide +kernel
theorem dX0_openSign_69 : decode cX0_openSign 69 = .ok (.iload_n 1, 1) := by decide +kernel
theorem dX0_openSign_70 : decode cX0_openSign 70 = .ok (.bipush 40, 2) := by decide +kernel
theorem dX0_openSign_72 : decode cX0_openSign 72 = .ok (.if_icmp .ne 7, 3) := by decide +kernel
theorem dX0_openSign_75 : decode cX0_openSign 75 = .ok (.iconst 0, 1) := by decide +kernel
theorem dX0_openSign_76 : decode cX0_openSign 76 = .ok (.goto 4, 3) := by decide +kernel
theorem dX0_openSign_79 : decode cX0_openSign 79 = .ok (.iconst 1, 1) := by decide +kernel
theorem dX0_openSign_80 : decode cX0_openSign 80 = .ok (.iadd, 1) := by decide +kernel
theorem dX0_openSign_81 : decode cX0_openSign 81 = .ok (.putfield 117, 3) := by decide +kernel
theorem dX0_openSign_84 : decode cX0_openSign 84 = .ok (.aload_n 0, 1) := by decide +kernel
theorem dX0_openSign_85 : decode cX0_openSign 85 = .ok (.dup, 1) := by decide +kernel
theorem dX0_openSign_86 : decode cX0_openSign 86 = .ok (.getfield 52, 3) := by decide +kernel
theorem dX0_openSign_89 : decode cX0_openSign 89 = .ok (.iconst 1, 1) := by decide +kernel
theorem dX0_openSign_90 : decode cX0_openSign 90 = .ok (.iadd, 1) := by decide +kernel
theorem dX0_openSign_91 : decode cX0_openSign 91 = .ok (.putfield 52, 3) := by decide +kernel
theorem dX0_openSign_94 : decode cX0_openSign 94 = .ok (.aload_n 0, 1) := by decide +kernel
theorem dX0_openSign_95 : decode cX0_openSign 95 = .ok (.getfield 9, 3) := by decide +kernel
theorem dX0_openSign_98 : decode cX0_openSign 98 = .ok (.invokevirtual 120, 3) := by decide +kernel
theorem dX0_openSign_101 : decode cX0_openSign 101 = .ok (.return_, 1) := by decide +kernel
theorem dX0_readName_0 : decode cX0_readName 0 = .ok (.aload_n 0, 1) := by decide +kernel
theorem dX0_readName_1 : decode cX0_readName 1 = .ok (.getfield 9, 3) := by decide +kernel
theorem dX0_readName_4 : decode cX0_readName 4 = .ok (.invokevirtual 108, 3) := by decide +kernel
theorem dX0_readName_7 : decode cX0_readName 7 = .ok (.lstore_n 1, 1) := by decide +kernel
theorem dX0_readName_8 : decode cX0_readName 8 = .ok (.aload_n 0, 1) := by decide +kernel
theorem dX0_readName_9 : decode cX0_readName 9 = .ok (.getfield 9, 3) := by decide +kernel
theorem dX0_readName_12 : decode cX0_readName 12 = .ok (.invokevirtual 99, 3) := by decide +kernel
theorem dX0_readName_15 : decode cX0_readName 15 = .ok (.istore_n 3, 1) := by decide +kernel
theorem dX0_readName_16 : decode cX0_readName 16 = .ok (.aload_n 0, 1) := by decide +kernel
theorem dX0_readName_17 : decode cX0_readName 17 = .ok (.getfield 9, 3) := by decide +kernel
theorem dX0_readName_20 : decode cX0_readName 20 = .ok (.invokevirtual 120, 3) := by decide +kernel
theorem dX0_readName_23 : decode cX0_readName 23 = .ok (.aload_n 0, 1) := by decide +kernel
theorem dX0_readName_24 : decode cX0_readName 24 = .ok (.getfield 9, 3) := by decide +kernel
theorem dX0_readName_27 : decode cX0_readName 27 = .ok (.invokevirtual 130, 3) := by decide +kernel
theorem dX0_readName_30 : decode cX0_readName 30 = .ok (.ifCond .eq 100, 3) := by decide +kernel
theorem dX0_readName_33 : decode cX0_readName 33 = .ok (.aload_n 0, 1) := by decide +kernel
theorem dX0_readName_34 : decode cX0_readName 34 = .ok (.getfield 44, 3) := by decide +kernel
theorem dX0_readName_37 : decode cX0_readName 37 = .ok (.aload_n 0, 1) := by decide +kernel
theorem dX0_readName_38 : decode cX0_readName 38 = .ok (.getfield 15, 3) := by decide +kernel
theorem dX0_readName_41 : decode cX0_readName 41 = .ok (.getfield 134, 3) := by decide +kernel
theorem dX0_readName_44 : decode cX0_readName 44 = .ok (.lload_n 1, 1) := by decide +kernel
theorem dX0_readName_45 : decode cX0_readName 45 = .ok (.invokevirtual 138, 3) := by decide +kernel
theorem dX0_readName_48 : decode cX0_readName 48 = .ok (.istore 4, 2) := by decide +kernel
theorem dX0_readName_50 : decode cX0_readName 50 = .ok (.iload 4, 2) := by decide +kernel
theorem dX0_readName_52 : decode cX0_readName 52 = .ok (.iconst (-1), 1) := by decide +kernel
theorem dX0_readName_53 : decode cX0_readName 53 = .ok (.if_icmp .ne 13, 3) := by decide +kernel
theorem dX0_readName_56 : decode cX0_readName 56 = .ok (.aload_n 0, 1) := by decide +kernel
theorem dX0_readName_57 : decode cX0_readName 57 = .ok (.getfield 9, 3) := by decide +kernel
theorem dX0_readName_60 : decode cX0_readName 60 = .ok (.iconst 2, 1) := by decide +kernel
theorem dX0_readName_61 : decode cX0_readName 61 = .ok (.iload_n 3, 1) := by decide +kernel
theorem dX0_readName_62 : decode cX0_readName 62 = .ok (.invokevirtual 102, 3) := by decide +kernel
theorem dX0_readName_65 : decode cX0_readName 65 = .ok (.return_, 1) := by decide +kernel
theorem dX0_readName_66 : decode cX0_readName 66 = .ok (.aload_n 0, 1) := by decide +kernel
theorem dX0_readName_67 : decode cX0_readName 67 = .ok (.getfield 44, 3) := by decide +kernel
theorem dX0_readName_70 : decode cX0_readName 70 = .ok (.getfield 142, 3) := by decide +kernel
theorem dX0_readName_73 : decode cX0_readName 73 = .ok (.aload_n 0, 1) := by decide +kernel
theorem dX0_readName_74 : decode cX0_readName 74 = .ok (.getfield 15, 3) := by decide +kernel
theorem dX0_readName_77 : decode cX0_readName 77 = .ok (.getfield 134, 3) := by decide +kernel
theorem dX0_readName_80 : decode cX0_readName 80 = .ok (.getfield 146, 3) := by decide +kernel
theorem dX0_readName_83 : decode cX0_readName 83 = .ok (.iload 4, 2) := by decide +kernel
theorem dX0_readName_85 : decode cX0_readName 85 = .ok (.iaload, 1) := by decide +kernel
theorem dX0_readName_86 : decode cX0_readName 86 = .ok (.aaload, 1) := by decide +kernel
theorem dX0_readName_87 : decode cX0_readName 87 = .ok (.astore 5, 2) := by decide +kernel
theorem dX0_readName_89 : decode cX0_readName 89 = .ok (.aload_n 0, 1) := by decide +kernel
theorem dX0_readName_90 : decode cX0_readName 90 = .ok (.getfield 15, 3) := by decide +kernel
theorem dX0_readName_93 : decode cX0_readName 93 = .ok (.getfield 151, 3) := by decide +kernel
theorem dX0_readName_96 : decode cX0_readName 96 = .ok (.ifCond .eq 20, 3) := by decide +kernel
theorem dX0_readName_99 : decode cX0_readName 99 = .ok (.aload 5, 2) := by decide +kernel
theorem dX0_readName_101 : decode cX0_readName 101 = .ok (.getfield 154, 3) := by decide +kernel
theorem dX0_readName_104 : decode cX0_readName 104 = .ok (.ifCond .ne 12, 3) := by decide +kernel
theorem dX0_readName_107 : decode cX0_readName 107 = .ok (.aload_n 0, 1) := by decide +kernel
theorem dX0_readName_108 : decode cX0_readName 108 = .ok (.getfield 9, 3) := by decide +kernel
theorem dX0_readName_111 : decode cX0_readName 111 = .ok (.iconst 5, 1) := by decide +kernel
theorem dX0_readName_112 : decode cX0_readName 112 = .ok (.iload_n 3, 1) := by decide +kernel
theorem dX0_readName_113 : decode cX0_readName 113 = .ok (.invokevirtual 102, 3) := by decide +kernel
theorem dX0_readName_116 : decode cX0_readName 116 = .ok (.aload_n 0, 1) := by decide +kernel
theorem dX0_readName_117 : decode cX0_readName 117 = .ok (.iconst 2, 1) := by decide +kernel
theorem dX0_readName_118 : decode cX0_readName 118 = .ok (.iload_n 3, 1) := by decide +kernel
theorem dX0_readName_119 : decode cX0_readName 119 = .ok (.iload 4, 2) := by decide +kernel
theorem dX0_readName_121 : decode cX0_readName 121 = .ok (.aload 5, 2) := by decide +kernel
theorem dX0_readName_123 : decode cX0_readName 123 = .ok (.getfield 159, 3) := by decide +kernel
theorem dX0_readName_126 : decode cX0_readName 126 = .ok (.invokevirtual 162, 3) := by decide +kernel
theorem dX0_readName_129 : decode cX0_readName 129 = .ok (.return_, 1) := by decide +kernel
theorem dX0_readName_130 : decode cX0_readName 130 = .ok (.aload_n 0, 1) := by decide +kernel
theorem dX0_readName_131 : decode cX0_readName 131 = .ok (.getfield 15, 3) := by decide +kernel
theorem dX0_readName_134 : decode cX0_readName 134 = .ok (.lload_n 1, 1) := by decide +kernel
theorem dX0_readName_135 : decode cX0_readName 135 = .ok (.invokevirtual 166, 3) := by decide +kernel
theorem dX0_readName_138 : decode cX0_readName 138 = .ok (.istore 4, 2) := by decide +kernel
theorem dX0_readName_140 : decode cX0_readName 140 = .ok (.iload 4, 2) := by decide +kernel
theorem dX0_readName_142 : decode cX0_readName 142 = .ok (.iconst (-1), 1) := by decide +kernel
theorem dX0_readName_143 : decode cX0_readName 143 = .ok (.if_icmp .ne 13, 3) := by decide +kernel
theorem dX0_readName_146 : decode cX0_readName 146 = .ok (.aload_n 0, 1) := by decide +kernel
theorem dX0_readName_147 : decode cX0_readName 147 = .ok (.getfield 9, 3) := by decide +kernel
theorem dX0_readName_150 : decode cX0_readName 150 = .ok (.iconst 2, 1) := by decide +kernel
theorem dX0_readName_151 : decode cX0_readName 151 = .ok (.iload_n 3, 1) := by decide +kernel
theorem dX0_readName_152 : decode cX0_readName 152 = .ok (.invokevirtual 102, 3) := by decide +kernel
theorem dX0_readName_155 : decode cX0_readName 155 = .ok (.return_, 1) := by decide +kernel
theorem dX0_readName_156 : decode cX0_readName 156 = .ok (.aload_n 0, 1) := by decide +kernel
theorem dX0_readName_157 : decode cX0_readName 157 = .ok (.getfield 44, 3) := by decide +kernel
theorem dX0_readName_160 : decode cX0_readName 160 = .ok (.dup, 1) := by decide +kernel
theorem dX0_readName_161 : decode cX0_readName 161 = .ok (.getfield 117, 3) := by decide +kernel
theorem dX0_readName_164 : decode cX0_readName 164 = .ok (.iconst 1, 1) := by decide +kernel
theorem dX0_readName_165 : decode cX0_readName 165 = .ok (.iadd, 1) := by decide +kernel
theorem dX0_readName_166 : decode cX0_readName 166 = .ok (.putfield 117, 3) := by decide +kernel
theorem dX0_readName_169 : decode cX0_readName 169 = .ok (.aload_n 0, 1) := by decide +kernel
theorem dX0_readName_170 : decode cX0_readName 170 = .ok (.getfield 15, 3) := by decide +kernel
theorem dX0_readName_173 : decode cX0_readName 173 = .ok (.getfield 134, 3) := by decide +kernel
theorem dX0_readName_176 : decode cX0_readName 176 = .ok (.iload 4, 2) := by decide +kernel
theorem dX0_readName_178 : decode cX0_readName 178 = .ok (.invokevirtual 170, 3) := by decide +kernel
theorem dX0_readName_181 : decode cX0_readName 181 = .ok (.aload_n 0, 1) := by decide +kernel
theorem dX0_readName_182 : decode cX0_readName 182 = .ok (.getfield 9, 3) := by decide +kernel
theorem dX0_readName_185 : decode cX0_readName 185 = .ok (.invokevirtual 67, 3) := by decide +kernel
theorem dX0_readName_188 : decode cX0_readName 188 = .ok (.bipush 91, 2) := by decide +kernel
theorem dX0_readName_190 : decode cX0_readName 190 = .ok (.if_icmp .ne 7, 3) := by decide +kernel
theorem dX0_readName_193 : decode cX0_readName 193 = .ok (.iconst 1, 1) := by decide +kernel
theorem dX0_readName_194 : decode cX0_readName 194 = .ok (.goto 4, 3) := by decide +kernel
theorem dX0_readName_197 : decode cX0_readName 197 = .ok (.iconst 0, 1) := by decide +kernel
theorem dX0_readName_198 : decode cX0_readName 198 = .ok (.if_icmp .eq 15, 3) := by decide +kernel
theorem dX0_readName_201 : decode cX0_readName 201 = .ok (.aload_n 0, 1) := by decide +kernel
theorem dX0_readName_202 : decode cX0_readName 202 = .ok (.getfield 9, 3) := by decide +kernel
theorem dX0_readName_205 : decode cX0_readName 205 = .ok (.iconst 5, 1) := by decide +kernel
theorem dX0_readName_206 : decode cX0_readName 206 = .ok (.iload_n 3, 1) := by decide +kernel
theorem dX0_readName_207 : decode cX0_readName 207 = .ok (.invokevirtual 102, 3) := by decide +kernel
theorem dX0_readName_210 : decode cX0_readName 210 = .ok (.goto 82, 3) := by decide +kernel
theorem dX0_readName_213 : decode cX0_readName 213 = .ok (.aload_n 0, 1) := by decide +kernel
theorem dX0_readName_214 : decode cX0_readName 214 = .ok (.getfield 15, 3) := by decide +kernel
theorem dX0_readName_217 : decode cX0_readName 217 = .ok (.getfield 134, 3) := by decide +kernel
theorem dX0_readName_220 : decode cX0_readName 220 = .ok (.iload 4, 2) := by decide +kernel
theorem dX0_readName_222 : decode cX0_readName 222 = .ok (.invokevirtual 170, 3) := by decide +kernel
theorem dX0_readName_225 : decode cX0_readName 225 = .ok (.ifCond .eq 14, 3) := by decide +kernel
theorem dX0_readName_228 : decode cX0_readName 228 = .ok (.aload_n 0, 1) := by decide +kernel
theorem dX0_readName_229 : decode cX0_readName 229 = .ok (.iconst 4, 1) := by decide +kernel
theorem dX0_readName_230 : decode cX0_readName 230 = .ok (.iload_n 3, 1) := by decide +kernel
theorem dX0_readName_231 : decode cX0_readName 231 = .ok (.iload 4, 2) := by decide +kernel
theorem dX0_readName_233 : decode cX0_readName 233 = .ok (.invokevirtual 174, 3) := by decide +kernel
theorem dX0_readName_236 : decode cX0_readName 236 = .ok (.goto 56, 3) := by decide +kernel
theorem dX0_readName_239 : decode cX0_readName 239 = .ok (.iload 4, 2) := by decide +kernel
theorem dX0_readName_241 : decode cX0_readName 241 = .ok (.bipush 16, 2) := by decide +kernel
theorem dX0_readName_243 : decode cX0_readName 243 = .ok (.if_icmp .lt 24, 3) := by decide +kernel
theorem dX0_readName_246 : decode cX0_readName 246 = .ok (.aload_n 0, 1) := by decide +kernel
theorem dX0_readName_247 : decode cX0_readName 247 = .ok (.getfield 44, 3) := by decide +kernel
theorem dX0_readName_250 : decode cX0_readName 250 = .ok (.iconst 2, 1) := by decide +kernel
theorem dX0_readName_251 : decode cX0_readName 251 = .ok (.iload 4, 2) := by decide +kernel
theorem dX0_readName_253 : decode cX0_readName 253 = .ok (.bipush 16, 2) := by decide +kernel
theorem dX0_readName_255 : decode cX0_readName 255 = .ok (.isub, 1) := by decide +kernel
theorem dX0_readName_256 : decode cX0_readName 256 = .ok (.invokevirtual 112, 3) := by decide +kernel
theorem dX0_readName_259 : decode cX0_readName 259 = .ok (.aload_n 0, 1) := by decide +kernel
theorem dX0_readName_260 : decode cX0_readName 260 = .ok (.iconst 1, 1) := by decide +kernel
theorem dX0_readName_261 : decode cX0_readName 261 = .ok (.invokevirtual 123, 3) := by decide +kernel
theorem dX0_readName_264 : decode cX0_readName 264 = .ok (.goto 28, 3) := by decide +kernel
theorem dX0_readName_267 : decode cX0_readName 267 = .ok (.aload_n 0, 1) := by decide +kernel
theorem dX0_readName_268 : decode cX0_readName 268 = .ok (.getfield 44, 3) := by decide +kernel
theorem dX0_readName_271 : decode cX0_readName 271 = .ok (.iconst 3, 1) := by decide +kernel
theorem dX0_readName_272 : decode cX0_readName 272 = .ok (.aload_n 0, 1) := by decide +kernel
theorem dX0_readName_273 : decode cX0_readName 273 = .ok (.getfield 15, 3) := by decide +kernel
theorem dX0_readName_276 : decode cX0_readName 276 = .ok (.getfield 134, 3) := by decide +kernel
theorem dX0_readName_279 : decode cX0_readName 279 = .ok (.iload 4, 2) := by decide +kernel
theorem dX0_readName_281 : decode cX0_readName 281 = .ok (.invokevirtual 177, 3) := by decide +kernel
theorem dX0_readName_284 : decode cX0_readName 284 = .ok (.invokevirtual 112, 3) := by decide +kernel
theorem dX0_readName_287 : decode cX0_readName 287 = .ok (.aload_n 0, 1) := by decide +kernel
theorem dX0_readName_288 : decode cX0_readName 288 = .ok (.iconst 1, 1) := by decide +kernel
theorem dX0_readName_289 : decode cX0_readName 289 = .ok (.invokevirtual 123, 3) := by decide +kernel
theorem dX0_readName_292 : decode cX0_readName 292 = .ok (.return_, 1) := by decide +kernel
theorem dX0_openIndex_0 : decode cX0_openIndex 0 = .ok (.aload_n 0, 1) := by decide +kernel
theorem dX0_openIndex_1 : decode cX0_openIndex 1 = .ok (.getfield 52, 3) := by decide +kernel
theorem dX0_openIndex_4 : decode cX0_openIndex 4 = .ok (.bipush 40, 2) := by decide +kernel
theorem dX0_openIndex_6 : decode cX0_openIndex 6 = .ok (.if_icmp .lt 18, 3) := by decide +kernel
theorem dX0_openIndex_9 : decode cX0_openIndex 9 = .ok (.aload_n 0, 1) := by decide +kernel
theorem dX0_openIndex_10 : decode cX0_openIndex 10 = .ok (.getfield 9, 3) := by decide +kernel
theorem dX0_openIndex_13 : decode cX0_openIndex 13 = .ok (.iconst 4, 1) := by decide +kernel
theorem dX0_openIndex_14 : decode cX0_openIndex 14 = .ok (.aload_n 0, 1) := by decide +kernel
theorem dX0_openIndex_15 : decode cX0_openIndex 15 = .ok (.getfield 9, 3) := by decide +kernel
theorem dX0_openIndex_18 : decode cX0_openIndex 18 = .ok (.invokevirtual 99, 3) := by decide +kernel
theorem dX0_openIndex_21 : decode cX0_openIndex 21 = .ok (.invokevirtual 102, 3) := by decide +kernel
theorem dX0_openIndex_24 : decode cX0_openIndex 24 = .ok (.aload_n 0, 1) := by decide +kernel
theorem dX0_openIndex_25 : decode cX0_openIndex 25 = .ok (.iload_n 1, 1) := by decide +kernel
theorem dX0_openIndex_26 : decode cX0_openIndex 26 = .ok (.iload_n 2, 1) := by decide +kernel
theorem dX0_openIndex_27 : decode cX0_openIndex 27 = .ok (.aload_n 0, 1) := by decide +kernel
theorem dX0_openIndex_28 : decode cX0_openIndex 28 = .ok (.getfield 15, 3) := by decide +kernel
theorem dX0_openIndex_31 : decode cX0_openIndex 31 = .ok (.getfield 134, 3) := by decide +kernel
theorem dX0_openIndex_34 : decode cX0_openIndex 34 = .ok (.iload_n 3, 1) := by decide +kernel
theorem dX0_openIndex_35 : decode cX0_openIndex 35 = .ok (.invokevirtual 177, 3) := by decide +kernel
theorem dX0_openIndex_38 : decode cX0_openIndex 38 = .ok (.invokevirtual 126, 3) := by decide +kernel
theorem dX0_openIndex_41 : decode cX0_openIndex 41 = .ok (.aload_n 0, 1) := by decide +kernel
theorem dX0_openIndex_42 : decode cX0_openIndex 42 = .ok (.dup, 1) := by decide +kernel
theorem dX0_openIndex_43 : decode cX0_openIndex 43 = .ok (.getfield 52, 3) := by decide +kernel
theorem dX0_openIndex_46 : decode cX0_openIndex 46 = .ok (.iconst 1, 1) := by decide +kernel
theorem dX0_openIndex_47 : decode cX0_openIndex 47 = .ok (.iadd, 1) := by decide +kernel
theorem dX0_openIndex_48 : decode cX0_openIndex 48 = .ok (.putfield 52, 3) := by decide +kernel
theorem dX0_openIndex_51 : decode cX0_openIndex 51 = .ok (.aload_n 0, 1) := by decide +kernel
theorem dX0_openIndex_52 : decode cX0_openIndex 52 = .ok (.getfield 9, 3) := by decide +kernel
theorem dX0_openIndex_55 : decode cX0_openIndex 55 = .ok (.invokevirtual 120, 3) := by decide +kernel
theorem dX0_openIndex_58 : decode cX0_openIndex 58 = .ok (.return_, 1) := by decide +kernel
theorem dX0_openCall_0 : decode cX0_openCall 0 = .ok (.aload_n 0, 1) := by decide +kernel
theorem dX0_openCall_1 : decode cX0_openCall 1 = .ok (.getfield 9, 3) := by decide +kernel
theorem dX0_openCall_4 : decode cX0_openCall 4 = .ok (.invokevirtual 99, 3) := by decide +kernel
theorem dX0_openCall_7 : decode cX0_openCall 7 = .ok (.istore 5, 2) := by decide +kernel
theorem dX0_openCall_9 : decode cX0_openCall 9 = .ok (.aload_n 0, 1) := by decide +kernel
theorem dX0_openCall_10 : decode cX0_openCall 10 = .ok (.getfield 52, 3) := by decide +kernel
theorem dX0_openCall_13 : decode cX0_openCall 13 = .ok (.bipush 40, 2) := by decide +kernel
theorem dX0_openCall_15 : decode cX0_openCall 15 = .ok (.if_icmp .lt 13, 3) := by decide +kernel
theorem dX0_openCall_18 : decode cX0_openCall 18 = .ok (.aload_n 0, 1) := by decide +kernel
theorem dX0_openCall_19 : decode cX0_openCall 19 = .ok (.getfield 9, 3) := by decide +kernel
theorem dX0_openCall_22 : decode cX0_openCall 22 = .ok (.iconst 4, 1) := by decide +kernel
theorem dX0_openCall_23 : decode cX0_openCall 23 = .ok (.iload 5, 2) := by decide +kernel
theorem dX0_openCall_25 : decode cX0_openCall 25 = .ok (.invokevirtual 102, 3) := by decide +kernel
theorem dX0_openCall_28 : decode cX0_openCall 28 = .ok (.aload_n 0, 1) := by decide +kernel
theorem dX0_openCall_29 : decode cX0_openCall 29 = .ok (.getfield 44, 3) := by decide +kernel
theorem dX0_openCall_32 : decode cX0_openCall 32 = .ok (.dup, 1) := by decide +kernel
theorem dX0_openCall_33 : decode cX0_openCall 33 = .ok (.getfield 117, 3) := by decide +kernel
theorem dX0_openCall_36 : decode cX0_openCall 36 = .ok (.iconst 1, 1) := by decide +kernel
theorem dX0_openCall_37 : decode cX0_openCall 37 = .ok (.iadd, 1) := by decide +kernel
theorem dX0_openCall_38 : decode cX0_openCall 38 = .ok (.putfield 117, 3) := by decide +kernel
theorem dX0_openCall_41 : decode cX0_openCall 41 = .ok (.aload_n 0, 1) := by decide +kernel
theorem dX0_openCall_42 : decode cX0_openCall 42 = .ok (.getfield 9, 3) := by decide +kernel
theorem dX0_openCall_45 : decode cX0_openCall 45 = .ok (.invokevirtual 120, 3) := by decide +kernel
theorem dX0_openCall_48 : decode cX0_openCall 48 = .ok (.aload_n 0, 1) := by decide +kernel
theorem dX0_openCall_49 : decode cX0_openCall 49 = .ok (.getfield 9, 3) := by decide +kernel
theorem dX0_openCall_52 : decode cX0_openCall 52 = .ok (.invokevirtual 99, 3) := by decide +kernel
theorem dX0_openCall_55 : decode cX0_openCall 55 = .ok (.istore 6, 2) := by decide +kernel
theorem dX0_openCall_57 : decode cX0_openCall 57 = .ok (.aload_n 0, 1) := by decide +kernel
theorem dX0_openCall_58 : decode cX0_openCall 58 = .ok (.getfield 9, 3) := by decide +kernel
theorem dX0_openCall_61 : decode cX0_openCall 61 = .ok (.invokevirtual 67, 3) := by decide +kernel
theorem dX0_openCall_64 : decode cX0_openCall 64 = .ok (.bipush 41, 2) := by decide +kernel
theorem dX0_openCall_66 : decode cX0_openCall 66 = .ok (.if_icmp .ne 7, 3) := by decide +kernel
theorem dX0_openCall_69 : decode cX0_openCall 69 = .ok (.iconst 1, 1) := by decide +kernel
theorem dX0_openCall_70 : decode cX0_openCall 70 = .ok (.goto 4, 3) := by decide +kernel
theorem dX0_openCall_73 : decode cX0_openCall 73 = .ok (.iconst 0, 1) := by decide +kernel
theorem dX0_openCall_74 : decode cX0_openCall 74 = .ok (.istore 7, 2) := by decide +kernel
theorem dX0_openCall_76 : decode cX0_openCall 76 = .ok (.iload 4, 2) := by decide +kernel
theorem dX0_openCall_78 : decode cX0_openCall 78 = .ok (.ifCond .ne 19, 3) := by decide +kernel
theorem dX0_openCall_81 : decode cX0_openCall 81 = .ok (.iload 7, 2) := by decide +kernel
theorem dX0_openCall_83 : decode cX0_openCall 83 = .ok (.ifCond .ne 14, 3) := by decide +kernel
theorem dX0_openCall_86 : decode cX0_openCall 86 = .ok (.aload_n 0, 1) := by decide +kernel
theorem dX0_openCall_87 : decode cX0_openCall 87 = .ok (.getfield 9, 3) := by decide +kernel
theorem dX0_openCall_90 : decode cX0_openCall 90 = .ok (.bipush 6, 2) := by decide +kernel
theorem dX0_openCall_92 : decode cX0_openCall 92 = .ok (.iload 5, 2) := by decide +kernel
theorem dX0_openCall_94 : decode cX0_openCall 94 = .ok (.invokevirtual 102, 3) := by decide +kernel
theorem dX0_openCall_97 : decode cX0_openCall 97 = .ok (.iload 7, 2) := by decide +kernel
theorem dX0_openCall_99 : decode cX0_openCall 99 = .ok (.ifCond .ne 21, 3) := by decide +kernel
theorem dX0_openCall_102 : decode cX0_openCall 102 = .ok (.aload_n 0, 1) := by decide +kernel
theorem dX0_openCall_103 : decode cX0_openCall 103 = .ok (.iload_n 1, 1) := by decide +kernel
theorem dX0_openCall_104 : decode cX0_openCall 104 = .ok (.iload_n 2, 1) := by decide +kernel
theorem dX0_openCall_105 : decode cX0_openCall 105 = .ok (.iload_n 3, 1) := by decide +kernel
theorem dX0_openCall_106 : decode cX0_openCall 106 = .ok (.invokevirtual 126, 3) := by decide +kernel
theorem dX0_openCall_109 : decode cX0_openCall 109 = .ok (.aload_n 0, 1) := by decide +kernel
theorem dX0_openCall_110 : decode cX0_openCall 110 = .ok (.dup, 1) := by decide +kernel
theorem dX0_openCall_111 : decode cX0_openCall 111 = .ok (.getfield 52, 3) := by decide +kernel
theorem dX0_openCall_114 : decode cX0_openCall 114 = .ok (.iconst 1, 1) := by decide +kernel
theorem dX0_openCall_115 : decode cX0_openCall 115 = .ok (.iadd, 1) := by decide +kernel
theorem dX0_openCall_116 : decode cX0_openCall 116 = .ok (.putfield 52, 3) := by decide +kernel
theorem dX0_openCall_119 : decode cX0_openCall 119 = .ok (.return_, 1) := by decide +kernel
theorem dX0_openCall_120 : decode cX0_openCall 120 = .ok (.aload_n 0, 1) := by decide +kernel
theorem dX0_openCall_121 : decode cX0_openCall 121 = .ok (.getfield 9, 3) := by decide +kernel
theorem dX0_openCall_124 : decode cX0_openCall 124 = .ok (.invokevirtual 120, 3) := by decide +kernel
theorem dX0_openCall_127 : decode cX0_openCall 127 = .ok (.iload 4, 2) := by decide +kernel
theorem dX0_openCall_129 : decode cX0_openCall 129 = .ok (.ifCond .le 14, 3) := by decide +kernel
theorem dX0_openCall_132 : decode cX0_openCall 132 = .ok (.aload_n 0, 1) := by decide +kernel
theorem dX0_openCall_133 : decode cX0_openCall 133 = .ok (.getfield 9, 3) := by decide +kernel
theorem dX0_openCall_136 : decode cX0_openCall 136 = .ok (.bipush 6, 2) := by decide +kernel
theorem dX0_openCall_138 : decode cX0_openCall 138 = .ok (.iload 6, 2) := by decide +kernel
theorem dX0_openCall_140 : decode cX0_openCall 140 = .ok (.invokevirtual 102, 3) := by decide +kernel
theorem dX0_openCall_143 : decode cX0_openCall 143 = .ok (.aload_n 0, 1) := by decide +kernel
theorem dX0_openCall_144 : decode cX0_openCall 144 = .ok (.getfield 44, 3) := by decide +kernel
theorem dX0_openCall_147 : decode cX0_openCall 147 = .ok (.bipush 13, 2) := by decide +kernel
theorem dX0_openCall_149 : decode cX0_openCall 149 = .ok (.iconst 0, 1) := by decide +kernel
theorem dX0_openCall_150 : decode cX0_openCall 150 = .ok (.invokevirtual 112, 3) := by decide +kernel
theorem dX0_openCall_153 : decode cX0_openCall 153 = .ok (.aload_n 0, 1) := by decide +kernel
theorem dX0_openCall_154 : decode cX0_openCall 154 = .ok (.getfield 44, 3) := by decide +kernel
theorem dX0_openCall_157 : decode cX0_openCall 157 = .ok (.iload_n 1, 1) := by decide +kernel
theorem dX0_openCall_158 : decode cX0_openCall 158 = .ok (.iconst 2, 1) := by decide +kernel
theorem dX0_openCall_159 : decode cX0_openCall 159 = .ok (.if_icmp .ne 8, 3) := by decide +kernel
theorem dX0_openCall_162 : decode cX0_openCall 162 = .ok (.bipush 17, 2) := by decide +kernel
theorem dX0_openCall_164 : decode cX0_openCall 164 = .ok (.goto 5, 3) := by decide +kernel
theorem dX0_openCall_167 : decode cX0_openCall 167 = .ok (.bipush 18, 2) := by decide +kernel
theorem dX0_openCall_169 : decode cX0_openCall 169 = .ok (.iload_n 3, 1) := by decide +kernel
theorem dX0_openCall_170 : decode cX0_openCall 170 = .ok (.invokevirtual 112, 3) := by decide +kernel
theorem dX0_openCall_173 : decode cX0_openCall 173 = .ok (.aload_n 0, 1) := by decide +kernel
theorem dX0_openCall_174 : decode cX0_openCall 174 = .ok (.iconst 1, 1) := by decide +kernel
theorem dX0_openCall_175 : decode cX0_openCall 175 = .ok (.invokevirtual 123, 3) := by decide +kernel
theorem dX0_openCall_178 : decode cX0_openCall 178 = .ok (.return_, 1) := by decide +kernel
theorem dX0_readAbove_0 : decode cX0_readAbove 0 = .ok (.aload_n 0, 1) := by decide +kernel
theorem dX0_readAbove_1 : decode cX0_readAbove 1 = .ok (.getfield 9, 3) := by decide +kernel
theorem dX0_readAbove_4 : decode cX0_readAbove 4 = .ok (.invokevirtual 99, 3) := by decide +kernel
theorem dX0_readAbove_7 : decode cX0_readAbove 7 = .ok (.istore_n 1, 1) := by decide +kernel
theorem dX0_readAbove_8 : decode cX0_readAbove 8 = .ok (.aload_n 0, 1) := by decide +kernel
theorem dX0_readAbove_9 : decode cX0_readAbove 9 = .ok (.getfield 9, 3) := by decide +kernel
theorem dX0_readAbove_12 : decode cX0_readAbove 12 = .ok (.invokevirtual 120, 3) := by decide +kernel
theorem dX0_readAbove_15 : decode cX0_readAbove 15 = .ok (.aload_n 0, 1) := by decide +kernel
theorem dX0_readAbove_16 : decode cX0_readAbove 16 = .ok (.getfield 44, 3) := by decide +kernel
theorem dX0_readAbove_19 : decode cX0_readAbove 19 = .ok (.aload_n 0, 1) := by decide +kernel
theorem dX0_readAbove_20 : decode cX0_readAbove 20 = .ok (.getfield 15, 3) := by decide +kernel
theorem dX0_readAbove_23 : decode cX0_readAbove 23 = .ok (.getfield 134, 3) := by decide +kernel
theorem dX0_readAbove_26 : decode cX0_readAbove 26 = .ok (.getfield 181, 3) := by decide +kernel
theorem dX0_readAbove_29 : decode cX0_readAbove 29 = .ok (.invokevirtual 184, 3) := by decide +kernel
theorem dX0_readAbove_32 : decode cX0_readAbove 32 = .ok (.ifCond .ne 13, 3) := by decide +kernel
theorem dX0_readAbove_35 : decode cX0_readAbove 35 = .ok (.aload_n 0, 1) := by decide +kernel
theorem dX0_readAbove_36 : decode cX0_readAbove 36 = .ok (.getfield 9, 3) := by decide +kernel
theorem dX0_readAbove_39 : decode cX0_readAbove 39 = .ok (.iconst 5, 1) := by decide +kernel
theorem dX0_readAbove_40 : decode cX0_readAbove 40 = .ok (.iload_n 1, 1) := by decide +kernel
theorem dX0_readAbove_41 : decode cX0_readAbove 41 = .ok (.invokevirtual 102, 3) := by decide +kernel
theorem dX0_readAbove_44 : decode cX0_readAbove 44 = .ok (.return_, 1) := by decide +kernel
theorem dX0_readAbove_45 : decode cX0_readAbove 45 = .ok (.aload_n 0, 1) := by decide +kernel
theorem dX0_readAbove_46 : decode cX0_readAbove 46 = .ok (.getfield 44, 3) := by decide +kernel
theorem dX0_readAbove_49 : decode cX0_readAbove 49 = .ok (.getfield 187, 3) := by decide +kernel
theorem dX0_readAbove_52 : decode cX0_readAbove 52 = .ok (.aload_n 0, 1) := by decide +kernel
theorem dX0_readAbove_53 : decode cX0_readAbove 53 = .ok (.getfield 15, 3) := by decide +kernel
theorem dX0_readAbove_56 : decode cX0_readAbove 56 = .ok (.getfield 134, 3) := by decide +kernel
theorem dX0_readAbove_59 : decode cX0_readAbove 59 = .ok (.getfield 181, 3) := by decide +kernel
theorem dX0_readAbove_62 : decode cX0_readAbove 62 = .ok (.aaload, 1) := by decide +kernel
theorem dX0_readAbove_63 : decode cX0_readAbove 63 = .ok (.astore_n 2, 1) := by decide +kernel
theorem dX0_readAbove_64 : decode cX0_readAbove 64 = .ok (.aload_n 0, 1) := by decide +kernel
theorem dX0_readAbove_65 : decode cX0_readAbove 65 = .ok (.getfield 9, 3) := by decide +kernel
theorem dX0_readAbove_68 : decode cX0_readAbove 68 = .ok (.bipush 46, 2) := by decide +kernel
theorem dX0_readAbove_70 : decode cX0_readAbove 70 = .ok (.invokevirtual 191, 3) := by decide +kernel
theorem dX0_readAbove_73 : decode cX0_readAbove 73 = .ok (.aload_n 0, 1) := by decide +kernel
theorem dX0_readAbove_74 : decode cX0_readAbove 74 = .ok (.getfield 9, 3) := by decide +kernel
theorem dX0_readAbove_77 : decode cX0_readAbove 77 = .ok (.invokevirtual 99, 3) := by decide +kernel
theorem dX0_readAbove_80 : decode cX0_readAbove 80 = .ok (.istore_n 3, 1) := by decide +kernel
theorem dX0_readAbove_81 : decode cX0_readAbove 81 = .ok (.aload_n 0, 1) := by decide +kernel
theorem dX0_readAbove_82 : decode cX0_readAbove 82 = .ok (.getfield 9, 3) := by decide +kernel
theorem dX0_readAbove_85 : decode cX0_readAbove 85 = .ok (.invokevirtual 67, 3) := by decide +kernel
theorem dX0_readAbove_88 : decode cX0_readAbove 88 = .ok (.iconst 3, 1) := by decide +kernel
theorem dX0_readAbove_89 : decode cX0_readAbove 89 = .ok (.if_icmp .eq 13, 3) := by decide +kernel
theorem dX0_readAbove_92 : decode cX0_readAbove 92 = .ok (.aload_n 0, 1) := by decide +kernel
theorem dX0_readAbove_93 : decode cX0_readAbove 93 = .ok (.getfield 9, 3) := by decide +kernel
theorem dX0_readAbove_96 : decode cX0_readAbove 96 = .ok (.iconst 1, 1) := by decide +kernel
theorem dX0_readAbove_97 : decode cX0_readAbove 97 = .ok (.iload_n 3, 1) := by decide +kernel
theorem dX0_readAbove_98 : decode cX0_readAbove 98 = .ok (.invokevirtual 102, 3) := by decide +kernel
theorem dX0_readAbove_101 : decode cX0_readAbove 101 = .ok (.return_, 1) := by decide +kernel
theorem dX0_readAbove_102 : decode cX0_readAbove 102 = .ok (.aload_n 0, 1) := by decide +kernel
theorem dX0_readAbove_103 : decode cX0_readAbove 103 = .ok (.getfield 44, 3) := by decide +kernel
theorem dX0_readAbove_106 : decode cX0_readAbove 106 = .ok (.aload_n 2, 1) := by decide +kernel
theorem dX0_readAbove_107 : decode cX0_readAbove 107 = .ok (.aload_n 0, 1) := by decide +kernel
theorem dX0_readAbove_108 : decode cX0_readAbove 108 = .ok (.getfield 9, 3) := by decide +kernel
theorem dX0_readAbove_111 : decode cX0_readAbove 111 = .ok (.invokevirtual 108, 3) := by decide +kernel
theorem dX0_readAbove_114 : decode cX0_readAbove 114 = .ok (.invokevirtual 138, 3) := by decide +kernel
theorem dX0_readAbove_117 : decode cX0_readAbove 117 = .ok (.istore 4, 2) := by decide +kernel
theorem dX0_readAbove_119 : decode cX0_readAbove 119 = .ok (.iload 4, 2) := by decide +kernel
theorem dX0_readAbove_121 : decode cX0_readAbove 121 = .ok (.iconst (-1), 1) := by decide +kernel
theorem dX0_readAbove_122 : decode cX0_readAbove 122 = .ok (.if_icmp .ne 13, 3) := by decide +kernel
theorem dX0_readAbove_125 : decode cX0_readAbove 125 = .ok (.aload_n 0, 1) := by decide +kernel
theorem dX0_readAbove_126 : decode cX0_readAbove 126 = .ok (.getfield 9, 3) := by decide +kernel
theorem dX0_readAbove_129 : decode cX0_readAbove 129 = .ok (.iconst 2, 1) := by decide +kernel
theorem dX0_readAbove_130 : decode cX0_readAbove 130 = .ok (.iload_n 3, 1) := by decide +kernel
theorem dX0_readAbove_131 : decode cX0_readAbove 131 = .ok (.invokevirtual 102, 3) := by decide +kernel
theorem dX0_readAbove_134 : decode cX0_readAbove 134 = .ok (.return_, 1) := by decide +kernel
theorem dX0_readAbove_135 : decode cX0_readAbove 135 = .ok (.aload_n 0, 1) := by decide +kernel
theorem dX0_readAbove_136 : decode cX0_readAbove 136 = .ok (.getfield 9, 3) := by decide +kernel
theorem dX0_readAbove_139 : decode cX0_readAbove 139 = .ok (.invokevirtual 120, 3) := by decide +kernel
theorem dX0_readAbove_142 : decode cX0_readAbove 142 = .ok (.aload_n 2, 1) := by decide +kernel
theorem dX0_readAbove_143 : decode cX0_readAbove 143 = .ok (.getfield 146, 3) := by decide +kernel
theorem dX0_readAbove_146 : decode cX0_readAbove 146 = .ok (.iload 4, 2) := by decide +kernel
theorem dX0_readAbove_148 : decode cX0_readAbove 148 = .ok (.iaload, 1) := by decide +kernel
theorem dX0_readAbove_149 : decode cX0_readAbove 149 = .ok (.istore 5, 2) := by decide +kernel
theorem dX0_readAbove_151 : decode cX0_readAbove 151 = .ok (.aload_n 0, 1) := by decide +kernel
theorem dX0_readAbove_152 : decode cX0_readAbove 152 = .ok (.getfield 15, 3) := by decide +kernel
theorem dX0_readAbove_155 : decode cX0_readAbove 155 = .ok (.getfield 151, 3) := by decide +kernel
theorem dX0_readAbove_158 : decode cX0_readAbove 158 = .ok (.ifCond .eq 28, 3) := by decide +kernel
theorem dX0_readAbove_161 : decode cX0_readAbove 161 = .ok (.aload_n 0, 1) := by decide +kernel
theorem dX0_readAbove_162 : decode cX0_readAbove 162 = .ok (.getfield 44, 3) := by decide +kernel
theorem dX0_readAbove_165 : decode cX0_readAbove 165 = .ok (.getfield 142, 3) := by decide +kernel
theorem dX0_readAbove_168 : decode cX0_readAbove 168 = .ok (.iload 5, 2) := by decide +kernel
theorem dX0_readAbove_170 : decode cX0_readAbove 170 = .ok (.aaload, 1) := by decide +kernel
theorem dX0_readAbove_171 : decode cX0_readAbove 171 = .ok (.getfield 154, 3) := by decide +kernel
theorem dX0_readAbove_174 : decode cX0_readAbove 174 = .ok (.ifCond .ne 12, 3) := by decide +kernel
theorem dX0_readAbove_177 : decode cX0_readAbove 177 = .ok (.aload_n 0, 1) := by decide +kernel
theorem dX0_readAbove_178 : decode cX0_readAbove 178 = .ok (.getfield 9, 3) := by decide +kernel
theorem dX0_readAbove_181 : decode cX0_readAbove 181 = .ok (.iconst 5, 1) := by decide +kernel
theorem dX0_readAbove_182 : decode cX0_readAbove 182 = .ok (.iload_n 3, 1) := by decide +kernel
theorem dX0_readAbove_183 : decode cX0_readAbove 183 = .ok (.invokevirtual 102, 3) := by decide +kernel
theorem dX0_readAbove_186 : decode cX0_readAbove 186 = .ok (.aload_n 0, 1) := by decide +kernel
theorem dX0_readAbove_187 : decode cX0_readAbove 187 = .ok (.getfield 9, 3) := by decide +kernel
theorem dX0_readAbove_190 : decode cX0_readAbove 190 = .ok (.invokevirtual 67, 3) := by decide +kernel
theorem dX0_readAbove_193 : decode cX0_readAbove 193 = .ok (.bipush 40, 2) := by decide +kernel
theorem dX0_readAbove_195 : decode cX0_readAbove 195 = .ok (.if_icmp .eq 19, 3) := by decide +kernel
theorem dX0_readAbove_198 : decode cX0_readAbove 198 = .ok (.aload_n 0, 1) := by decide +kernel
theorem dX0_readAbove_199 : decode cX0_readAbove 199 = .ok (.getfield 9, 3) := by decide +kernel
theorem dX0_readAbove_202 : decode cX0_readAbove 202 = .ok (.iconst 1, 1) := by decide +kernel
theorem dX0_readAbove_203 : decode cX0_readAbove 203 = .ok (.aload_n 0, 1) := by decide +kernel
theorem dX0_readAbove_204 : decode cX0_readAbove 204 = .ok (.getfield 9, 3) := by decide +kernel
theorem dX0_readAbove_207 : decode cX0_readAbove 207 = .ok (.invokevirtual 99, 3) := by decide +kernel
theorem dX0_readAbove_210 : decode cX0_readAbove 210 = .ok (.invokevirtual 102, 3) := by decide +kernel
theorem dX0_readAbove_213 : decode cX0_readAbove 213 = .ok (.return_, 1) := by decide +kernel
theorem dX0_readAbove_214 : decode cX0_readAbove 214 = .ok (.aload_n 0, 1) := by decide +kernel
theorem dX0_readAbove_215 : decode cX0_readAbove 215 = .ok (.iconst 3, 1) := by decide +kernel
theorem dX0_readAbove_216 : decode cX0_readAbove 216 = .ok (.iload_n 3, 1) := by decide +kernel
theorem dX0_readAbove_217 : decode cX0_readAbove 217 = .ok (.iload 5, 2) := by decide +kernel
theorem dX0_readAbove_219 : decode cX0_readAbove 219 = .ok (.aload_n 0, 1) := by decide +kernel
theorem dX0_readAbove_220 : decode cX0_readAbove 220 = .ok (.getfield 44, 3) := by decide +kernel
theorem dX0_readAbove_223 : decode cX0_readAbove 223 = .ok (.getfield 142, 3) := by decide +kernel
theorem dX0_readAbove_226 : decode cX0_readAbove 226 = .ok (.iload 5, 2) := by decide +kernel
theorem dX0_readAbove_228 : decode cX0_readAbove 228 = .ok (.aaload, 1) := by decide +kernel
theorem dX0_readAbove_229 : decode cX0_readAbove 229 = .ok (.getfield 159, 3) := by decide +kernel
theorem dX0_readAbove_232 : decode cX0_readAbove 232 = .ok (.invokevirtual 162, 3) := by decide +kernel
theorem dX0_readAbove_235 : decode cX0_readAbove 235 = .ok (.return_, 1) := by decide +kernel
theorem dX0_takeBracket_0 : decode cX0_takeBracket 0 = .ok (.aload_n 0, 1) := by decide +kernel
theorem dX0_takeBracket_1 : decode cX0_takeBracket 1 = .ok (.getfield 9, 3) := by decide +kernel
theorem dX0_takeBracket_4 : decode cX0_takeBracket 4 = .ok (.invokevirtual 67, 3) := by decide +kernel
theorem dX0_takeBracket_7 : decode cX0_takeBracket 7 = .ok (.bipush 40, 2) := by decide +kernel
theorem dX0_takeBracket_9 : decode cX0_takeBracket 9 = .ok (.if_icmp .eq 21, 3) := by decide +kernel
theorem dX0_takeBracket_12 : decode cX0_takeBracket 12 = .ok (.aload_n 0, 1) := by decide +kernel
theorem dX0_takeBracket_13 : decode cX0_takeBracket 13 = .ok (.getfield 9, 3) := by decide +kernel
theorem dX0_takeBracket_16 : decode cX0_takeBracket 16 = .ok (.iconst 1, 1) := by decide +kernel
theorem dX0_takeBracket_17 : decode cX0_takeBracket 17 = .ok (.aload_n 0, 1) := by decide +kernel
theorem dX0_takeBracket_18 : decode cX0_takeBracket 18 = .ok (.getfield 9, 3) := by decide +kernel
theorem dX0_takeBracket_21 : decode cX0_takeBracket 21 = .ok (.invokevirtual 99, 3) := by decide +kernel
theorem dX0_takeBracket_24 : decode cX0_takeBracket 24 = .ok (.invokevirtual 102, 3) := by decide +kernel
theorem dX0_takeBracket_27 : decode cX0_takeBracket 27 = .ok (.goto 27, 3) := by decide +kernel
theorem dX0_takeBracket_30 : decode cX0_takeBracket 30 = .ok (.aload_n 0, 1) := by decide +kernel
theorem dX0_takeBracket_31 : decode cX0_takeBracket 31 = .ok (.getfield 52, 3) := by decide +kernel
theorem dX0_takeBracket_34 : decode cX0_takeBracket 34 = .ok (.bipush 40, 2) := by decide +kernel
theorem dX0_takeBracket_36 : decode cX0_takeBracket 36 = .ok (.if_icmp .lt 18, 3) := by decide +kernel
theorem dX0_takeBracket_39 : decode cX0_takeBracket 39 = .ok (.aload_n 0, 1) := by decide +kernel
theorem dX0_takeBracket_40 : decode cX0_takeBracket 40 = .ok (.getfield 9, 3) := by decide +kernel
theorem dX0_takeBracket_43 : decode cX0_takeBracket 43 = .ok (.iconst 4, 1) := by decide +kernel
theorem dX0_takeBracket_44 : decode cX0_takeBracket 44 = .ok (.aload_n 0, 1) := by decide +kernel
theorem dX0_takeBracket_45 : decode cX0_takeBracket 45 = .ok (.getfield 9, 3) := by decide +kernel
theorem dX0_takeBracket_48 : decode cX0_takeBracket 48 = .ok (.invokevirtual 99, 3) := by decide +kernel
theorem dX0_takeBracket_51 : decode cX0_takeBracket 51 = .ok (.invokevirtual 102, 3) := by decide +kernel
theorem dX0_takeBracket_54 : decode cX0_takeBracket 54 = .ok (.aload_n 0, 1) := by decide +kernel
theorem dX0_takeBracket_55 : decode cX0_takeBracket 55 = .ok (.getfield 9, 3) := by decide +kernel
theorem dX0_takeBracket_58 : decode cX0_takeBracket 58 = .ok (.invokevirtual 120, 3) := by decide +kernel
theorem dX0_takeBracket_61 : decode cX0_takeBracket 61 = .ok (.aload_n 0, 1) := by decide +kernel
theorem dX0_takeBracket_62 : decode cX0_takeBracket 62 = .ok (.getfield 9, 3) := by decide +kernel
theorem dX0_takeBracket_65 : decode cX0_takeBracket 65 = .ok (.invokevirtual 67, 3) := by decide +kernel
theorem dX0_takeBracket_68 : decode cX0_takeBracket 68 = .ok (.iconst 3, 1) := by decide +kernel
theorem dX0_takeBracket_69 : decode cX0_takeBracket 69 = .ok (.if_icmp .eq 18, 3) := by decide +kernel
theorem dX0_takeBracket_72 : decode cX0_takeBracket 72 = .ok (.aload_n 0, 1) := by decide +kernel
theorem dX0_takeBracket_73 : decode cX0_takeBracket 73 = .ok (.getfield 9, 3) := by decide +kernel
theorem dX0_takeBracket_76 : decode cX0_takeBracket 76 = .ok (.iconst 1, 1) := by decide +kernel
theorem dX0_takeBracket_77 : decode cX0_takeBracket 77 = .ok (.aload_n 0, 1) := by decide +kernel
theorem dX0_takeBracket_78 : decode cX0_takeBracket 78 = .ok (.getfield 9, 3) := by decide +kernel
theorem dX0_takeBracket_81 : decode cX0_takeBracket 81 = .ok (.invokevirtual 99, 3) := by decide +kernel
theorem dX0_takeBracket_84 : decode cX0_takeBracket 84 = .ok (.invokevirtual 102, 3) := by decide +kernel
theorem dX0_takeBracket_87 : decode cX0_takeBracket 87 = .ok (.return_, 1) := by decide +kernel
theorem dX0_readSize_0 : decode cX0_readSize 0 = .ok (.aload_n 0, 1) := by decide +kernel
theorem dX0_readSize_1 : decode cX0_readSize 1 = .ok (.getfield 9, 3) := by decide +kernel
theorem dX0_readSize_4 : decode cX0_readSize 4 = .ok (.invokevirtual 120, 3) := by decide +kernel
theorem dX0_readSize_7 : decode cX0_readSize 7 = .ok (.aload_n 0, 1) := by decide +kernel
theorem dX0_readSize_8 : decode cX0_readSize 8 = .ok (.invokevirtual 194, 3) := by decide +kernel
theorem dX0_readSize_11 : decode cX0_readSize 11 = .ok (.aload_n 0, 1) := by decide +kernel
theorem dX0_readSize_12 : decode cX0_readSize 12 = .ok (.getfield 9, 3) := by decide +kernel
theorem dX0_readSize_15 : decode cX0_readSize 15 = .ok (.invokevirtual 99, 3) := by decide +kernel
theorem dX0_readSize_18 : decode cX0_readSize 18 = .ok (.istore_n 1, 1) := by decide +kernel
theorem dX0_readSize_19 : decode cX0_readSize 19 = .ok (.aload_n 0, 1) := by decide +kernel
theorem dX0_readSize_20 : decode cX0_readSize 20 = .ok (.getfield 15, 3) := by decide +kernel
theorem dX0_readSize_23 : decode cX0_readSize 23 = .ok (.aload_n 0, 1) := by decide +kernel
theorem dX0_readSize_24 : decode cX0_readSize 24 = .ok (.getfield 9, 3) := by decide +kernel
theorem dX0_readSize_27 : decode cX0_readSize 27 = .ok (.invokevirtual 108, 3) := by decide +kernel
theorem dX0_readSize_30 : decode cX0_readSize 30 = .ok (.invokevirtual 166, 3) := by decide +kernel
theorem dX0_readSize_33 : decode cX0_readSize 33 = .ok (.istore_n 2, 1) := by decide +kernel
theorem dX0_readSize_34 : decode cX0_readSize 34 = .ok (.iload_n 2, 1) := by decide +kernel
theorem dX0_readSize_35 : decode cX0_readSize 35 = .ok (.iconst (-1), 1) := by decide +kernel
theorem dX0_readSize_36 : decode cX0_readSize 36 = .ok (.if_icmp .ne 13, 3) := by decide +kernel
theorem dX0_readSize_39 : decode cX0_readSize 39 = .ok (.aload_n 0, 1) := by decide +kernel
theorem dX0_readSize_40 : decode cX0_readSize 40 = .ok (.getfield 9, 3) := by decide +kernel
theorem dX0_readSize_43 : decode cX0_readSize 43 = .ok (.iconst 2, 1) := by decide +kernel
theorem dX0_readSize_44 : decode cX0_readSize 44 = .ok (.iload_n 1, 1) := by decide +kernel
theorem dX0_readSize_45 : decode cX0_readSize 45 = .ok (.invokevirtual 102, 3) := by decide +kernel
theorem dX0_readSize_48 : decode cX0_readSize 48 = .ok (.return_, 1) := by decide +kernel
theorem dX0_readSize_49 : decode cX0_readSize 49 = .ok (.aload_n 0, 1) := by decide +kernel
theorem dX0_readSize_50 : decode cX0_readSize 50 = .ok (.getfield 9, 3) := by decide +kernel
theorem dX0_readSize_53 : decode cX0_readSize 53 = .ok (.invokevirtual 120, 3) := by decide +kernel
theorem dX0_readSize_56 : decode cX0_readSize 56 = .ok (.aload_n 0, 1) := by decide +kernel
theorem dX0_readSize_57 : decode cX0_readSize 57 = .ok (.getfield 15, 3) := by decide +kernel
theorem dX0_readSize_60 : decode cX0_readSize 60 = .ok (.getfield 134, 3) := by decide +kernel
theorem dX0_readSize_63 : decode cX0_readSize 63 = .ok (.iload_n 2, 1) := by decide +kernel
theorem dX0_readSize_64 : decode cX0_readSize 64 = .ok (.invokevirtual 170, 3) := by decide +kernel
theorem dX0_readSize_67 : decode cX0_readSize 67 = .ok (.ifCond .ne 13, 3) := by decide +kernel
theorem dX0_readSize_70 : decode cX0_readSize 70 = .ok (.aload_n 0, 1) := by decide +kernel
theorem dX0_readSize_71 : decode cX0_readSize 71 = .ok (.getfield 9, 3) := by decide +kernel
theorem dX0_readSize_74 : decode cX0_readSize 74 = .ok (.iconst 5, 1) := by decide +kernel
theorem dX0_readSize_75 : decode cX0_readSize 75 = .ok (.iload_n 1, 1) := by decide +kernel
theorem dX0_readSize_76 : decode cX0_readSize 76 = .ok (.invokevirtual 102, 3) := by decide +kernel
theorem dX0_readSize_79 : decode cX0_readSize 79 = .ok (.return_, 1) := by decide +kernel
theorem dX0_readSize_80 : decode cX0_readSize 80 = .ok (.aload_n 0, 1) := by decide +kernel
theorem dX0_readSize_81 : decode cX0_readSize 81 = .ok (.getfield 9, 3) := by decide +kernel
theorem dX0_readSize_84 : decode cX0_readSize 84 = .ok (.bipush 41, 2) := by decide +kernel
theorem dX0_readSize_86 : decode cX0_readSize 86 = .ok (.invokevirtual 191, 3) := by decide +kernel
theorem dX0_readSize_89 : decode cX0_readSize 89 = .ok (.aload_n 0, 1) := by decide +kernel
theorem dX0_readSize_90 : decode cX0_readSize 90 = .ok (.getfield 44, 3) := by decide +kernel
theorem dX0_readSize_93 : decode cX0_readSize 93 = .ok (.iconst 1, 1) := by decide +kernel
theorem dX0_readSize_94 : decode cX0_readSize 94 = .ok (.aload_n 0, 1) := by decide +kernel
theorem dX0_readSize_95 : decode cX0_readSize 95 = .ok (.getfield 15, 3) := by decide +kernel
theorem dX0_readSize_98 : decode cX0_readSize 98 = .ok (.getfield 134, 3) := by decide +kernel
theorem dX0_readSize_101 : decode cX0_readSize 101 = .ok (.getfield 197, 3) := by decide +kernel
theorem dX0_readSize_104 : decode cX0_readSize 104 = .ok (.iload_n 2, 1) := by decide +kernel
theorem dX0_readSize_105 : decode cX0_readSize 105 = .ok (.iaload, 1) := by decide +kernel
theorem dX0_readSize_106 : decode cX0_readSize 106 = .ok (.invokevirtual 112, 3) := by decide +kernel
theorem dX0_readSize_109 : decode cX0_readSize 109 = .ok (.aload_n 0, 1) := by decide +kernel
theorem dX0_readSize_110 : decode cX0_readSize 110 = .ok (.getfield 44, 3) := by decide +kernel
theorem dX0_readSize_113 : decode cX0_readSize 113 = .ok (.dup, 1) := by decide +kernel
theorem dX0_readSize_114 : decode cX0_readSize 114 = .ok (.getfield 117, 3) := by decide +kernel
theorem dX0_readSize_117 : decode cX0_readSize 117 = .ok (.iconst 1, 1) := by decide +kernel
theorem dX0_readSize_118 : decode cX0_readSize 118 = .ok (.iadd, 1) := by decide +kernel
theorem dX0_readSize_119 : decode cX0_readSize 119 = .ok (.putfield 117, 3) := by decide +kernel
theorem dX0_readSize_122 : decode cX0_readSize 122 = .ok (.aload_n 0, 1) := by decide +kernel
theorem dX0_readSize_123 : decode cX0_readSize 123 = .ok (.iconst 1, 1) := by decide +kernel
theorem dX0_readSize_124 : decode cX0_readSize 124 = .ok (.invokevirtual 123, 3) := by decide +kernel
theorem dX0_readSize_127 : decode cX0_readSize 127 = .ok (.return_, 1) := by decide +kernel
theorem dX0_readOld_0 : decode cX0_readOld 0 = .ok (.aload_n 0, 1) := by decide +kernel
theorem dX0_readOld_1 : decode cX0_readOld 1 = .ok (.getfield 9, 3) := by decide +kernel
theorem dX0_readOld_4 : decode cX0_readOld 4 = .ok (.invokevirtual 99, 3) := by decide +kernel
theorem dX0_readOld_7 : decode cX0_readOld 7 = .ok (.istore_n 1, 1) := by decide +kernel
theorem dX0_readOld_8 : decode cX0_readOld 8 = .ok (.aload_n 0, 1) := by decide +kernel
theorem dX0_readOld_9 : decode cX0_readOld 9 = .ok (.getfield 9, 3) := by decide +kernel
theorem dX0_readOld_12 : decode cX0_readOld 12 = .ok (.invokevirtual 120, 3) := by decide +kernel
theorem dX0_readOld_15 : decode cX0_readOld 15 = .ok (.aload_n 0, 1) := by decide +kernel
theorem dX0_readOld_16 : decode cX0_readOld 16 = .ok (.invokevirtual 194, 3) := by decide +kernel
theorem dX0_readOld_19 : decode cX0_readOld 19 = .ok (.aload_n 0, 1) := by decide +kernel
theorem dX0_readOld_20 : decode cX0_readOld 20 = .ok (.getfield 9, 3) := by decide +kernel
theorem dX0_readOld_23 : decode cX0_readOld 23 = .ok (.invokevirtual 99, 3) := by decide +kernel
theorem dX0_readOld_26 : decode cX0_readOld 26 = .ok (.istore_n 2, 1) := by decide +kernel
theorem dX0_readOld_27 : decode cX0_readOld 27 = .ok (.aload_n 0, 1) := by decide +kernel
theorem dX0_readOld_28 : decode cX0_readOld 28 = .ok (.getfield 15, 3) := by decide +kernel
theorem dX0_readOld_31 : decode cX0_readOld 31 = .ok (.aload_n 0, 1) := by decide +kernel
theorem dX0_readOld_32 : decode cX0_readOld 32 = .ok (.getfield 9, 3) := by decide +kernel
theorem dX0_readOld_35 : decode cX0_readOld 35 = .ok (.invokevirtual 108, 3) := by decide +kernel
theorem dX0_readOld_38 : decode cX0_readOld 38 = .ok (.invokevirtual 166, 3) := by decide +kernel
theorem dX0_readOld_41 : decode cX0_readOld 41 = .ok (.istore_n 3, 1) := by decide +kernel
theorem dX0_readOld_42 : decode cX0_readOld 42 = .ok (.aload_n 0, 1) := by decide +kernel
theorem dX0_readOld_43 : decode cX0_readOld 43 = .ok (.getfield 9, 3) := by decide +kernel
theorem dX0_readOld_46 : decode cX0_readOld 46 = .ok (.invokevirtual 120, 3) := by decide +kernel
theorem dX0_readOld_49 : decode cX0_readOld 49 = .ok (.iload_n 3, 1) := by decide +kernel
theorem dX0_readOld_50 : decode cX0_readOld 50 = .ok (.iconst (-1), 1) := by decide +kernel
theorem dX0_readOld_51 : decode cX0_readOld 51 = .ok (.if_icmp .ne 13, 3) := by decide +kernel
theorem dX0_readOld_54 : decode cX0_readOld 54 = .ok (.aload_n 0, 1) := by decide +kernel
theorem dX0_readOld_55 : decode cX0_readOld 55 = .ok (.getfield 9, 3) := by decide +kernel
theorem dX0_readOld_58 : decode cX0_readOld 58 = .ok (.iconst 2, 1) := by decide +kernel
theorem dX0_readOld_59 : decode cX0_readOld 59 = .ok (.iload_n 2, 1) := by decide +kernel
theorem dX0_readOld_60 : decode cX0_readOld 60 = .ok (.invokevirtual 102, 3) := by decide +kernel
theorem dX0_readOld_63 : decode cX0_readOld 63 = .ok (.return_, 1) := by decide +kernel
theorem dX0_readOld_64 : decode cX0_readOld 64 = .ok (.aload_n 0, 1) := by decide +kernel
theorem dX0_readOld_65 : decode cX0_readOld 65 = .ok (.getfield 15, 3) := by decide +kernel
theorem dX0_readOld_68 : decode cX0_readOld 68 = .ok (.getfield 134, 3) := by decide +kernel
theorem dX0_readOld_71 : decode cX0_readOld 71 = .ok (.iload_n 3, 1) := by decide +kernel
theorem dX0_readOld_72 : decode cX0_readOld 72 = .ok (.invokevirtual 170, 3) := by decide +kernel
theorem dX0_readOld_75 : decode cX0_readOld 75 = .ok (.istore 4, 2) := by decide +kernel
theorem dX0_readOld_77 : decode cX0_readOld 77 = .ok (.iload_n 3, 1) := by decide +kernel
theorem dX0_readOld_78 : decode cX0_readOld 78 = .ok (.bipush 16, 2) := by decide +kernel
theorem dX0_readOld_80 : decode cX0_readOld 80 = .ok (.if_icmp .ge 25, 3) := by decide +kernel
theorem dX0_readOld_83 : decode cX0_readOld 83 = .ok (.iload 4, 2) := by decide +kernel
theorem dX0_readOld_85 : decode cX0_readOld 85 = .ok (.aload_n 0, 1) := by decide +kernel
theorem dX0_readOld_86 : decode cX0_readOld 86 = .ok (.getfield 9, 3) := by decide +kernel
theorem dX0_readOld_89 : decode cX0_readOld 89 = .ok (.invokevirtual 67, 3) := by decide +kernel
theorem dX0_readOld_92 : decode cX0_readOld 92 = .ok (.bipush 91, 2) := by decide +kernel
theorem dX0_readOld_94 : decode cX0_readOld 94 = .ok (.if_icmp .ne 7, 3) := by decide +kernel
theorem dX0_readOld_97 : decode cX0_readOld 97 = .ok (.iconst 1, 1) := by decide +kernel
theorem dX0_readOld_98 : decode cX0_readOld 98 = .ok (.goto 4, 3) := by decide +kernel
theorem dX0_readOld_101 : decode cX0_readOld 101 = .ok (.iconst 0, 1) := by decide +kernel
theorem dX0_readOld_102 : decode cX0_readOld 102 = .ok (.if_icmp .eq 13, 3) := by decide +kernel
theorem dX0_readOld_105 : decode cX0_readOld 105 = .ok (.aload_n 0, 1) := by decide +kernel
theorem dX0_readOld_106 : decode cX0_readOld 106 = .ok (.getfield 9, 3) := by decide +kernel
theorem dX0_readOld_109 : decode cX0_readOld 109 = .ok (.iconst 5, 1) := by decide +kernel
theorem dX0_readOld_110 : decode cX0_readOld 110 = .ok (.iload_n 2, 1) := by decide +kernel
theorem dX0_readOld_111 : decode cX0_readOld 111 = .ok (.invokevirtual 102, 3) := by decide +kernel
theorem dX0_readOld_114 : decode cX0_readOld 114 = .ok (.return_, 1) := by decide +kernel
theorem dX0_readOld_115 : decode cX0_readOld 115 = .ok (.aload_n 0, 1) := by decide +kernel
theorem dX0_readOld_116 : decode cX0_readOld 116 = .ok (.getfield 44, 3) := by decide +kernel
theorem dX0_readOld_119 : decode cX0_readOld 119 = .ok (.dup, 1) := by decide +kernel
theorem dX0_readOld_120 : decode cX0_readOld 120 = .ok (.getfield 117, 3) := by decide +kernel
theorem dX0_readOld_123 : decode cX0_readOld 123 = .ok (.iconst 2, 1) := by decide +kernel
theorem dX0_readOld_124 : decode cX0_readOld 124 = .ok (.iadd, 1) := by decide +kernel
theorem dX0_readOld_125 : decode cX0_readOld 125 = .ok (.putfield 117, 3) := by decide +kernel
theorem dX0_readOld_128 : decode cX0_readOld 128 = .ok (.iload 4, 2) := by decide +kernel
theorem dX0_readOld_130 : decode cX0_readOld 130 = .ok (.ifCond .eq 37, 3) := by decide +kernel
theorem dX0_readOld_133 : decode cX0_readOld 133 = .ok (.aload_n 0, 1) := by decide +kernel
theorem dX0_readOld_134 : decode cX0_readOld 134 = .ok (.dup, 1) := by decide +kernel
theorem dX0_readOld_135 : decode cX0_readOld 135 = .ok (.getfield 52, 3) := by decide +kernel
theorem dX0_readOld_138 : decode cX0_readOld 138 = .ok (.iconst 1, 1) := by decide +kernel
theorem dX0_readOld_139 : decode cX0_readOld 139 = .ok (.iadd, 1) := by decide +kernel
theorem dX0_readOld_140 : decode cX0_readOld 140 = .ok (.putfield 52, 3) := by decide +kernel
theorem dX0_readOld_143 : decode cX0_readOld 143 = .ok (.aload_n 0, 1) := by decide +kernel
theorem dX0_readOld_144 : decode cX0_readOld 144 = .ok (.iconst 5, 1) := by decide +kernel
theorem dX0_readOld_145 : decode cX0_readOld 145 = .ok (.iload_n 2, 1) := by decide +kernel
theorem dX0_readOld_146 : decode cX0_readOld 146 = .ok (.iload_n 3, 1) := by decide +kernel
theorem dX0_readOld_147 : decode cX0_readOld 147 = .ok (.invokevirtual 174, 3) := by decide +kernel
theorem dX0_readOld_150 : decode cX0_readOld 150 = .ok (.aload_n 0, 1) := by decide +kernel
theorem dX0_readOld_151 : decode cX0_readOld 151 = .ok (.getfield 32, 3) := by decide +kernel
theorem dX0_readOld_154 : decode cX0_readOld 154 = .ok (.aload_n 0, 1) := by decide +kernel
theorem dX0_readOld_155 : decode cX0_readOld 155 = .ok (.getfield 45, 3) := by decide +kernel
theorem dX0_readOld_158 : decode cX0_readOld 158 = .ok (.iconst 1, 1) := by decide +kernel
theorem dX0_readOld_159 : decode cX0_readOld 159 = .ok (.isub, 1) := by decide +kernel
theorem dX0_readOld_160 : decode cX0_readOld 160 = .ok (.iconst 0, 1) := by decide +kernel
theorem dX0_readOld_161 : decode cX0_readOld 161 = .ok (.invokestatic 200, 3) := by decide +kernel
theorem dX0_readOld_164 : decode cX0_readOld 164 = .ok (.iload_n 1, 1) := by decide +kernel
theorem dX0_readOld_165 : decode cX0_readOld 165 = .ok (.iastore, 1) := by decide +kernel
theorem dX0_readOld_166 : decode cX0_readOld 166 = .ok (.return_, 1) := by decide +kernel
theorem dX0_readOld_167 : decode cX0_readOld 167 = .ok (.aload_n 0, 1) := by decide +kernel
theorem dX0_readOld_168 : decode cX0_readOld 168 = .ok (.getfield 9, 3) := by decide +kernel
theorem dX0_readOld_171 : decode cX0_readOld 171 = .ok (.bipush 41, 2) := by decide +kernel
theorem dX0_readOld_173 : decode cX0_readOld 173 = .ok (.invokevirtual 191, 3) := by decide +kernel
theorem dX0_readOld_176 : decode cX0_readOld 176 = .ok (.aload_n 0, 1) := by decide +kernel
theorem dX0_readOld_177 : decode cX0_readOld 177 = .ok (.getfield 44, 3) := by decide +kernel
theorem dX0_readOld_180 : decode cX0_readOld 180 = .ok (.iconst 4, 1) := by decide +kernel
theorem dX0_readOld_181 : decode cX0_readOld 181 = .ok (.aload_n 0, 1) := by decide +kernel
theorem dX0_readOld_182 : decode cX0_readOld 182 = .ok (.getfield 15, 3) := by decide +kernel
theorem dX0_readOld_185 : decode cX0_readOld 185 = .ok (.getfield 134, 3) := by decide +kernel
theorem dX0_readOld_188 : decode cX0_readOld 188 = .ok (.iload_n 3, 1) := by decide +kernel
theorem dX0_readOld_189 : decode cX0_readOld 189 = .ok (.invokevirtual 177, 3) := by decide +kernel
theorem dX0_readOld_192 : decode cX0_readOld 192 = .ok (.invokevirtual 112, 3) := by decide +kernel
theorem dX0_readOld_195 : decode cX0_readOld 195 = .ok (.aload_n 0, 1) := by decide +kernel
theorem dX0_readOld_196 : decode cX0_readOld 196 = .ok (.iconst 2, 1) := by decide +kernel
theorem dX0_readOld_197 : decode cX0_readOld 197 = .ok (.invokevirtual 123, 3) := by decide +kernel
theorem dX0_readOld_200 : decode cX0_readOld 200 = .ok (.return_, 1) := by decide +kernel
theorem dX0_levelOf_0 : decode cX0_levelOf 0 = .ok (.iload_n 0, 1) := by decide +kernel
theorem dX0_levelOf_1 : decode cX0_levelOf 1 = .ok (.lookupswitch 127 #[(37, 125), (42, 125), (43, 123), (45, 123), (47, 125), (60, 121), (62, 121), (201, 119), (202, 119), (203, 121), (204, 121), (205, 117), (206, 115)], 115) := by decide +kernel
theorem dX0_levelOf_116 : decode cX0_levelOf 116 = .ok (.iconst 1, 1) := by decide +kernel
theorem dX0_levelOf_117 : decode cX0_levelOf 117 = .ok (.ireturn, 1) := by decide +kernel
theorem dX0_levelOf_118 : decode cX0_levelOf 118 = .ok (.iconst 2, 1) := by decide +kernel
theorem dX0_levelOf_119 : decode cX0_levelOf 119 = .ok (.ireturn, 1) := by decide +kernel
theorem dX0_levelOf_120 : decode cX0_levelOf 120 = .ok (.iconst 3, 1) := by decide +kernel
theorem dX0_levelOf_121 : decode cX0_levelOf 121 = .ok (.ireturn, 1) := by decide +kernel
theorem dX0_levelOf_122 : decode cX0_levelOf 122 = .ok (.iconst 3, 1) := by decide +kernel
theorem dX0_levelOf_123 : decode cX0_levelOf 123 = .ok (.ireturn, 1) := by decide +kernel
theorem dX0_levelOf_124 : decode cX0_levelOf 124 = .ok (.iconst 4, 1) := by decide +kernel
theorem dX0_levelOf_125 : decode cX0_levelOf 125 = .ok (.ireturn, 1) := by decide +kernel
theorem dX0_levelOf_126 : decode cX0_levelOf 126 = .ok (.iconst 5, 1) := by decide +kernel
theorem dX0_levelOf_127 : decode cX0_levelOf 127 = .ok (.ireturn, 1) := by decide +kernel
theorem dX0_levelOf_128 : decode cX0_levelOf 128 = .ok (.iconst 0, 1) := by decide +kernel
theorem dX0_levelOf_129 : decode cX0_levelOf 129 = .ok (.ireturn, 1) := by decide +kernel
theorem dX0_openOperator_0 : decode cX0_openOperator 0 = .ok (.aload_n 0, 1) := by decide +kernel
theorem dX0_openOperator_1 : decode cX0_openOperator 1 = .ok (.getfield 44, 3) := by decide +kernel
theorem dX0_openOperator_4 : decode cX0_openOperator 4 = .ok (.getfield 221, 3) := by decide +kernel
theorem dX0_openOperator_7 : decode cX0_openOperator 7 = .ok (.istore_n 2, 1) := by decide +kernel
theorem dX0_openOperator_8 : decode cX0_openOperator 8 = .ok (.iload_n 1, 1) := by decide +kernel
theorem dX0_openOperator_9 : decode cX0_openOperator 9 = .ok (.sipush 205, 3) := by decide +kernel
theorem dX0_openOperator_12 : decode cX0_openOperator 12 = .ok (.if_icmp .ne 16, 3) := by decide +kernel
theorem dX0_openOperator_15 : decode cX0_openOperator 15 = .ok (.aload_n 0, 1) := by decide +kernel
theorem dX0_openOperator_16 : decode cX0_openOperator 16 = .ok (.getfield 44, 3) := by decide +kernel
theorem dX0_openOperator_19 : decode cX0_openOperator 19 = .ok (.bipush 24, 2) := by decide +kernel
theorem dX0_openOperator_21 : decode cX0_openOperator 21 = .ok (.iconst 0, 1) := by decide +kernel
theorem dX0_openOperator_22 : decode cX0_openOperator 22 = .ok (.invokevirtual 112, 3) := by decide +kernel
theorem dX0_openOperator_25 : decode cX0_openOperator 25 = .ok (.goto 20, 3) := by decide +kernel
theorem dX0_openOperator_28 : decode cX0_openOperator 28 = .ok (.iload_n 1, 1) := by decide +kernel
theorem dX0_openOperator_29 : decode cX0_openOperator 29 = .ok (.sipush 206, 3) := by decide +kernel
theorem dX0_openOperator_32 : decode cX0_openOperator 32 = .ok (.if_icmp .ne 13, 3) := by decide +kernel
theorem dX0_openOperator_35 : decode cX0_openOperator 35 = .ok (.aload_n 0, 1) := by decide +kernel
theorem dX0_openOperator_36 : decode cX0_openOperator 36 = .ok (.getfield 44, 3) := by decide +kernel
theorem dX0_openOperator_39 : decode cX0_openOperator 39 = .ok (.bipush 25, 2) := by decide +kernel
theorem dX0_openOperator_41 : decode cX0_openOperator 41 = .ok (.iconst 0, 1) := by decide +kernel
theorem dX0_openOperator_42 : decode cX0_openOperator 42 = .ok (.invokevirtual 112, 3) := by decide +kernel
theorem dX0_openOperator_45 : decode cX0_openOperator 45 = .ok (.aload_n 0, 1) := by decide +kernel
theorem dX0_openOperator_46 : decode cX0_openOperator 46 = .ok (.iload_n 1, 1) := by decide +kernel
theorem dX0_openOperator_47 : decode cX0_openOperator 47 = .ok (.aload_n 0, 1) := by decide +kernel
theorem dX0_openOperator_48 : decode cX0_openOperator 48 = .ok (.getfield 9, 3) := by decide +kernel
theorem dX0_openOperator_51 : decode cX0_openOperator 51 = .ok (.invokevirtual 99, 3) := by decide +kernel
theorem dX0_openOperator_54 : decode cX0_openOperator 54 = .ok (.iload_n 2, 1) := by decide +kernel
theorem dX0_openOperator_55 : decode cX0_openOperator 55 = .ok (.invokevirtual 126, 3) := by decide +kernel
theorem dX0_openOperator_58 : decode cX0_openOperator 58 = .ok (.aload_n 0, 1) := by decide +kernel
theorem dX0_openOperator_59 : decode cX0_openOperator 59 = .ok (.getfield 44, 3) := by decide +kernel
theorem dX0_openOperator_62 : decode cX0_openOperator 62 = .ok (.dup, 1) := by decide +kernel
theorem dX0_openOperator_63 : decode cX0_openOperator 63 = .ok (.getfield 117, 3) := by decide +kernel
theorem dX0_openOperator_66 : decode cX0_openOperator 66 = .ok (.iconst 1, 1) := by decide +kernel
theorem dX0_openOperator_67 : decode cX0_openOperator 67 = .ok (.iadd, 1) := by decide +kernel
theorem dX0_openOperator_68 : decode cX0_openOperator 68 = .ok (.putfield 117, 3) := by decide +kernel
theorem dX0_openOperator_71 : decode cX0_openOperator 71 = .ok (.aload_n 0, 1) := by decide +kernel
theorem dX0_openOperator_72 : decode cX0_openOperator 72 = .ok (.getfield 9, 3) := by decide +kernel
theorem dX0_openOperator_75 : decode cX0_openOperator 75 = .ok (.invokevirtual 120, 3) := by decide +kernel
theorem dX0_openOperator_78 : decode cX0_openOperator 78 = .ok (.aload_n 0, 1) := by decide +kernel
theorem dX0_openOperator_79 : decode cX0_openOperator 79 = .ok (.iconst 1, 1) := by decide +kernel
theorem dX0_openOperator_80 : decode cX0_openOperator 80 = .ok (.putfield 55, 3) := by decide +kernel
theorem dX0_openOperator_83 : decode cX0_openOperator 83 = .ok (.return_, 1) := by decide +kernel
theorem dX0_closeParts_0 : decode cX0_closeParts 0 = .ok (.iconst 1, 1) := by decide +kernel
theorem dX0_closeParts_1 : decode cX0_closeParts 1 = .ok (.istore_n 2, 1) := by decide +kernel
theorem dX0_closeParts_2 : decode cX0_closeParts 2 = .ok (.iconst 0, 1) := by decide +kernel
theorem dX0_closeParts_3 : decode cX0_closeParts 3 = .ok (.istore_n 3, 1) := by decide +kernel
theorem dX0_closeParts_4 : decode cX0_closeParts 4 = .ok (.iload_n 3, 1) := by decide +kernel
theorem dX0_closeParts_5 : decode cX0_closeParts 5 = .ok (.sipush 300, 3) := by decide +kernel
theorem dX0_closeParts_8 : decode cX0_closeParts 8 = .ok (.if_icmp .ge 243, 3) := by decide +kernel
theorem dX0_closeParts_11 : decode cX0_closeParts 11 = .ok (.iload_n 2, 1) := by decide +kernel
theorem dX0_closeParts_12 : decode cX0_closeParts 12 = .ok (.ifCond .eq 239, 3) := by decide +kernel
theorem dX0_closeParts_15 : decode cX0_closeParts 15 = .ok (.aload_n 0, 1) := by decide +kernel
theorem dX0_closeParts_16 : decode cX0_closeParts 16 = .ok (.getfield 45, 3) := by decide +kernel
theorem dX0_closeParts_19 : decode cX0_closeParts 19 = .ok (.ifCond .le 232, 3) := by decide +kernel
theorem dX0_closeParts_22 : decode cX0_closeParts 22 = .ok (.aload_n 0, 1) := by decide +kernel
theorem dX0_closeParts_23 : decode cX0_closeParts 23 = .ok (.getfield 19, 3) := by decide +kernel
theorem dX0_closeParts_26 : decode cX0_closeParts 26 = .ok (.aload_n 0, 1) := by decide +kernel
theorem dX0_closeParts_27 : decode cX0_closeParts 27 = .ok (.getfield 45, 3) := by decide +kernel
theorem dX0_closeParts_30 : decode cX0_closeParts 30 = .ok (.iconst 1, 1) := by decide +kernel
theorem dX0_closeParts_31 : decode cX0_closeParts 31 = .ok (.isub, 1) := by decide +kernel
theorem dX0_closeParts_32 : decode cX0_closeParts 32 = .ok (.iaload, 1) := by decide +kernel
theorem dX0_closeParts_33 : decode cX0_closeParts 33 = .ok (.istore 4, 2) := by decide +kernel
theorem dX0_closeParts_35 : decode cX0_closeParts 35 = .ok (.iload 4, 2) := by decide +kernel
theorem dX0_closeParts_37 : decode cX0_closeParts 37 = .ok (.bipush 6, 2) := by decide +kernel
theorem dX0_closeParts_39 : decode cX0_closeParts 39 = .ok (.if_icmp .eq 10, 3) := by decide +kernel
theorem dX0_closeParts_42 : decode cX0_closeParts 42 = .ok (.iload 4, 2) := by decide +kernel
theorem dX0_closeParts_44 : decode cX0_closeParts 44 = .ok (.bipush 7, 2) := by decide +kernel
theorem dX0_closeParts_46 : decode cX0_closeParts 46 = .ok (.if_icmp .ne 7, 3) := by decide +kernel
theorem dX0_closeParts_49 : decode cX0_closeParts 49 = .ok (.iconst 1, 1) := by decide +kernel
theorem dX0_closeParts_50 : decode cX0_closeParts 50 = .ok (.goto 4, 3) := by decide +kernel
theorem dX0_closeParts_53 : decode cX0_closeParts 53 = .ok (.iconst 0, 1) := by decide +kernel
theorem dX0_closeParts_54 : decode cX0_closeParts 54 = .ok (.istore 5, 2) := by decide +kernel
theorem dX0_closeParts_56 : decode cX0_closeParts 56 = .ok (.iload 5, 2) := by decide +kernel
theorem dX0_closeParts_58 : decode cX0_closeParts 58 = .ok (.ifCond .ne 12, 3) := by decide +kernel
theorem dX0_closeParts_61 : decode cX0_closeParts 61 = .ok (.iload 4, 2) := by decide +kernel
theorem dX0_closeParts_63 : decode cX0_closeParts 63 = .ok (.invokestatic 206, 3) := by decide +kernel
theorem dX0_closeParts_66 : decode cX0_closeParts 66 = .ok (.iload_n 1, 1) := by decide +kernel
theorem dX0_closeParts_67 : decode cX0_closeParts 67 = .ok (.if_icmp .lt 7, 3) := by decide +kernel
theorem dX0_closeParts_70 : decode cX0_closeParts 70 = .ok (.iconst 1, 1) := by decide +kernel
theorem dX0_closeParts_71 : decode cX0_closeParts 71 = .ok (.goto 4, 3) := by decide +kernel
theorem dX0_closeParts_74 : decode cX0_closeParts 74 = .ok (.iconst 0, 1) := by decide +kernel
theorem dX0_closeParts_75 : decode cX0_closeParts 75 = .ok (.istore_n 2, 1) := by decide +kernel
theorem dX0_closeParts_76 : decode cX0_closeParts 76 = .ok (.iload_n 2, 1) := by decide +kernel
theorem dX0_closeParts_77 : decode cX0_closeParts 77 = .ok (.ifCond .eq 168, 3) := by decide +kernel
theorem dX0_closeParts_80 : decode cX0_closeParts 80 = .ok (.aload_n 0, 1) := by decide +kernel
theorem dX0_closeParts_81 : decode cX0_closeParts 81 = .ok (.dup, 1) := by decide +kernel
theorem dX0_closeParts_82 : decode cX0_closeParts 82 = .ok (.getfield 45, 3) := by decide +kernel
theorem dX0_closeParts_85 : decode cX0_closeParts 85 = .ok (.iconst 1, 1) := by decide +kernel
theorem dX0_closeParts_86 : decode cX0_closeParts 86 = .ok (.isub, 1) := by decide +kernel
theorem dX0_closeParts_87 : decode cX0_closeParts 87 = .ok (.putfield 45, 3) := by decide +kernel
theorem dX0_closeParts_90 : decode cX0_closeParts 90 = .ok (.aload_n 0, 1) := by decide +kernel
theorem dX0_closeParts_91 : decode cX0_closeParts 91 = .ok (.invokevirtual 224, 3) := by decide +kernel
theorem dX0_closeParts_94 : decode cX0_closeParts 94 = .ok (.istore 6, 2) := by decide +kernel
theorem dX0_closeParts_96 : decode cX0_closeParts 96 = .ok (.iload 5, 2) := by decide +kernel
theorem dX0_closeParts_98 : decode cX0_closeParts 98 = .ok (.ifCond .eq 38, 3) := by decide +kernel
theorem dX0_closeParts_101 : decode cX0_closeParts 101 = .ok (.aload_n 0, 1) := by decide +kernel
theorem dX0_closeParts_102 : decode cX0_closeParts 102 = .ok (.dup, 1) := by decide +kernel
theorem dX0_closeParts_103 : decode cX0_closeParts 103 = .ok (.getfield 52, 3) := by decide +kernel
theorem dX0_closeParts_106 : decode cX0_closeParts 106 = .ok (.iconst 1, 1) := by decide +kernel
theorem dX0_closeParts_107 : decode cX0_closeParts 107 = .ok (.isub, 1) := by decide +kernel
theorem dX0_closeParts_108 : decode cX0_closeParts 108 = .ok (.putfield 52, 3) := by decide +kernel
theorem dX0_closeParts_111 : decode cX0_closeParts 111 = .ok (.aload_n 0, 1) := by decide +kernel
theorem dX0_closeParts_112 : decode cX0_closeParts 112 = .ok (.getfield 44, 3) := by decide +kernel
theorem dX0_closeParts_115 : decode cX0_closeParts 115 = .ok (.iload 4, 2) := by decide +kernel
theorem dX0_closeParts_117 : decode cX0_closeParts 117 = .ok (.bipush 6, 2) := by decide +kernel
theorem dX0_closeParts_119 : decode cX0_closeParts 119 = .ok (.if_icmp .ne 8, 3) := by decide +kernel
theorem dX0_closeParts_122 : decode cX0_closeParts 122 = .ok (.bipush 6, 2) := by decide +kernel
theorem dX0_closeParts_124 : decode cX0_closeParts 124 = .ok (.goto 5, 3) := by decide +kernel
theorem dX0_closeParts_127 : decode cX0_closeParts 127 = .ok (.bipush 7, 2) := by decide +kernel
theorem dX0_closeParts_129 : decode cX0_closeParts 129 = .ok (.iconst 0, 1) := by decide +kernel
theorem dX0_closeParts_130 : decode cX0_closeParts 130 = .ok (.invokevirtual 112, 3) := by decide +kernel
theorem dX0_closeParts_133 : decode cX0_closeParts 133 = .ok (.goto 58, 3) := by decide +kernel
theorem dX0_closeParts_136 : decode cX0_closeParts 136 = .ok (.iload 4, 2) := by decide +kernel
theorem dX0_closeParts_138 : decode cX0_closeParts 138 = .ok (.sipush 205, 3) := by decide +kernel
theorem dX0_closeParts_141 : decode cX0_closeParts 141 = .ok (.if_icmp .eq 11, 3) := by decide +kernel
theorem dX0_closeParts_144 : decode cX0_closeParts 144 = .ok (.iload 4, 2) := by decide +kernel
theorem dX0_closeParts_146 : decode cX0_closeParts 146 = .ok (.sipush 206, 3) := by decide +kernel
theorem dX0_closeParts_149 : decode cX0_closeParts 149 = .ok (.if_icmp .ne 32, 3) := by decide +kernel
theorem dX0_closeParts_152 : decode cX0_closeParts 152 = .ok (.aload_n 0, 1) := by decide +kernel
theorem dX0_closeParts_153 : decode cX0_closeParts 153 = .ok (.getfield 44, 3) := by decide +kernel
theorem dX0_closeParts_156 : decode cX0_closeParts 156 = .ok (.bipush 8, 2) := by decide +kernel
theorem dX0_closeParts_158 : decode cX0_closeParts 158 = .ok (.iconst 0, 1) := by decide +kernel
theorem dX0_closeParts_159 : decode cX0_closeParts 159 = .ok (.invokevirtual 112, 3) := by decide +kernel
theorem dX0_closeParts_162 : decode cX0_closeParts 162 = .ok (.aload_n 0, 1) := by decide +kernel
theorem dX0_closeParts_163 : decode cX0_closeParts 163 = .ok (.getfield 44, 3) := by decide +kernel
theorem dX0_closeParts_166 : decode cX0_closeParts 166 = .ok (.aload_n 0, 1) := by decide +kernel
theorem dX0_closeParts_167 : decode cX0_closeParts 167 = .ok (.getfield 26, 3) := by decide +kernel
theorem dX0_closeParts_170 : decode cX0_closeParts 170 = .ok (.aload_n 0, 1) := by decide +kernel
theorem dX0_closeParts_171 : decode cX0_closeParts 171 = .ok (.getfield 45, 3) := by decide +kernel
theorem dX0_closeParts_174 : decode cX0_closeParts 174 = .ok (.iaload, 1) := by decide +kernel
theorem dX0_closeParts_175 : decode cX0_closeParts 175 = .ok (.invokevirtual 227, 3) := by decide +kernel
theorem dX0_closeParts_178 : decode cX0_closeParts 178 = .ok (.goto 13, 3) := by decide +kernel
theorem dX0_closeParts_181 : decode cX0_closeParts 181 = .ok (.aload_n 0, 1) := by decide +kernel
theorem dX0_closeParts_182 : decode cX0_closeParts 182 = .ok (.getfield 44, 3) := by decide +kernel
theorem dX0_closeParts_185 : decode cX0_closeParts 185 = .ok (.iload 4, 2) := by decide +kernel
theorem dX0_closeParts_187 : decode cX0_closeParts 187 = .ok (.iconst 0, 1) := by decide +kernel
theorem dX0_closeParts_188 : decode cX0_closeParts 188 = .ok (.invokevirtual 112, 3) := by decide +kernel
theorem dX0_closeParts_191 : decode cX0_closeParts 191 = .ok (.iconst 1, 1) := by decide +kernel
theorem dX0_closeParts_192 : decode cX0_closeParts 192 = .ok (.iload 5, 2) := by decide +kernel
theorem dX0_closeParts_194 : decode cX0_closeParts 194 = .ok (.ifCond .eq 8, 3) := by decide +kernel
theorem dX0_closeParts_197 : decode cX0_closeParts 197 = .ok (.iload 6, 2) := by decide +kernel
theorem dX0_closeParts_199 : decode cX0_closeParts 199 = .ok (.goto 12, 3) := by decide +kernel
theorem dX0_closeParts_202 : decode cX0_closeParts 202 = .ok (.iload 6, 2) := by decide +kernel
theorem dX0_closeParts_204 : decode cX0_closeParts 204 = .ok (.aload_n 0, 1) := by decide +kernel
theorem dX0_closeParts_205 : decode cX0_closeParts 205 = .ok (.invokevirtual 224, 3) := by decide +kernel
theorem dX0_closeParts_208 : decode cX0_closeParts 208 = .ok (.invokestatic 200, 3) := by decide +kernel
theorem dX0_closeParts_211 : decode cX0_closeParts 211 = .ok (.iadd, 1) := by decide +kernel
theorem dX0_closeParts_212 : decode cX0_closeParts 212 = .ok (.istore 6, 2) := by decide +kernel
theorem dX0_closeParts_214 : decode cX0_closeParts 214 = .ok (.aload_n 0, 1) := by decide +kernel
theorem dX0_closeParts_215 : decode cX0_closeParts 215 = .ok (.iload 6, 2) := by decide +kernel
theorem dX0_closeParts_217 : decode cX0_closeParts 217 = .ok (.invokevirtual 123, 3) := by decide +kernel
theorem dX0_closeParts_220 : decode cX0_closeParts 220 = .ok (.iload 6, 2) := by decide +kernel
theorem dX0_closeParts_222 : decode cX0_closeParts 222 = .ok (.bipush 12, 2) := by decide +kernel
theorem dX0_closeParts_224 : decode cX0_closeParts 224 = .ok (.if_icmp .le 21, 3) := by decide +kernel
theorem dX0_closeParts_227 : decode cX0_closeParts 227 = .ok (.aload_n 0, 1) := by decide +kernel
theorem dX0_closeParts_228 : decode cX0_closeParts 228 = .ok (.getfield 9, 3) := by decide +kernel
theorem dX0_closeParts_231 : decode cX0_closeParts 231 = .ok (.bipush 7, 2) := by decide +kernel
theorem dX0_closeParts_233 : decode cX0_closeParts 233 = .ok (.aload_n 0, 1) := by decide +kernel
theorem dX0_closeParts_234 : decode cX0_closeParts 234 = .ok (.getfield 23, 3) := by decide +kernel
theorem dX0_closeParts_237 : decode cX0_closeParts 237 = .ok (.aload_n 0, 1) := by decide +kernel
theorem dX0_closeParts_238 : decode cX0_closeParts 238 = .ok (.getfield 45, 3) := by decide +kernel
theorem dX0_closeParts_241 : decode cX0_closeParts 241 = .ok (.iaload, 1) := by decide +kernel
theorem dX0_closeParts_242 : decode cX0_closeParts 242 = .ok (.invokevirtual 102, 3) := by decide +kernel
theorem dX0_closeParts_245 : decode cX0_closeParts 245 = .ok (.iinc 3 1, 3) := by decide +kernel
theorem dX0_closeParts_248 : decode cX0_closeParts 248 = .ok (.goto (-244), 3) := by decide +kernel
theorem dX0_closeParts_251 : decode cX0_closeParts 251 = .ok (.return_, 1) := by decide +kernel
theorem dX1_standOn_0 : decode cX1_standOn 0 = .ok (.aload_n 0, 1) := by decide +kernel
theorem dX1_standOn_1 : decode cX1_standOn 1 = .ok (.aload_n 1, 1) := by decide +kernel
theorem dX1_standOn_2 : decode cX1_standOn 2 = .ok (.putfield 30, 3) := by decide +kernel
theorem dX1_standOn_5 : decode cX1_standOn 5 = .ok (.aload_n 0, 1) := by decide +kernel
theorem dX1_standOn_6 : decode cX1_standOn 6 = .ok (.aload_n 2, 1) := by decide +kernel
theorem dX1_standOn_7 : decode cX1_standOn 7 = .ok (.putfield 34, 3) := by decide +kernel
theorem dX1_standOn_10 : decode cX1_standOn 10 = .ok (.aload_n 0, 1) := by decide +kernel
theorem dX1_standOn_11 : decode cX1_standOn 11 = .ok (.aload_n 3, 1) := by decide +kernel
theorem dX1_standOn_12 : decode cX1_standOn 12 = .ok (.putfield 21, 3) := by decide +kernel
theorem dX1_standOn_15 : decode cX1_standOn 15 = .ok (.aload_n 0, 1) := by decide +kernel
theorem dX1_standOn_16 : decode cX1_standOn 16 = .ok (.aload 4, 2) := by decide +kernel
theorem dX1_standOn_18 : decode cX1_standOn 18 = .ok (.putfield 24, 3) := by decide +kernel
theorem dX1_standOn_21 : decode cX1_standOn 21 = .ok (.aload_n 0, 1) := by decide +kernel
theorem dX1_standOn_22 : decode cX1_standOn 22 = .ok (.aload 5, 2) := by decide +kernel
theorem dX1_standOn_24 : decode cX1_standOn 24 = .ok (.putfield 27, 3) := by decide +kernel
theorem dX1_standOn_27 : decode cX1_standOn 27 = .ok (.return_, 1) := by decide +kernel
theorem dX1_readyToAsk_0 : decode cX1_readyToAsk 0 = .ok (.aload_n 0, 1) := by decide +kernel
theorem dX1_readyToAsk_1 : decode cX1_readyToAsk 1 = .ok (.iconst 1, 1) := by decide +kernel
theorem dX1_readyToAsk_2 : decode cX1_readyToAsk 2 = .ok (.putfield 38, 3) := by decide +kernel
theorem dX1_readyToAsk_5 : decode cX1_readyToAsk 5 = .ok (.aload_n 0, 1) := by decide +kernel
theorem dX1_readyToAsk_6 : decode cX1_readyToAsk 6 = .ok (.iload_n 2, 1) := by decide +kernel
theorem dX1_readyToAsk_7 : decode cX1_readyToAsk 7 = .ok (.putfield 42, 3) := by decide +kernel
theorem dX1_readyToAsk_10 : decode cX1_readyToAsk 10 = .ok (.aload_n 0, 1) := by decide +kernel
theorem dX1_readyToAsk_11 : decode cX1_readyToAsk 11 = .ok (.iconst 0, 1) := by decide +kernel
theorem dX1_readyToAsk_12 : decode cX1_readyToAsk 12 = .ok (.putfield 46, 3) := by decide +kernel
theorem dX1_readyToAsk_15 : decode cX1_readyToAsk 15 = .ok (.aload_n 0, 1) := by decide +kernel
theorem dX1_readyToAsk_16 : decode cX1_readyToAsk 16 = .ok (.iload_n 1, 1) := by decide +kernel
theorem dX1_readyToAsk_17 : decode cX1_readyToAsk 17 = .ok (.putfield 49, 3) := by decide +kernel
theorem dX1_readyToAsk_20 : decode cX1_readyToAsk 20 = .ok (.return_, 1) := by decide +kernel
theorem dX1_readyToCall_0 : decode cX1_readyToCall 0 = .ok (.aload_n 0, 1) := by decide +kernel
theorem dX1_readyToCall_1 : decode cX1_readyToCall 1 = .ok (.iconst 0, 1) := by decide +kernel
theorem dX1_readyToCall_2 : decode cX1_readyToCall 2 = .ok (.putfield 38, 3) := by decide +kernel
theorem dX1_readyToCall_5 : decode cX1_readyToCall 5 = .ok (.aload_n 0, 1) := by decide +kernel
theorem dX1_readyToCall_6 : decode cX1_readyToCall 6 = .ok (.iconst 0, 1) := by decide +kernel
theorem dX1_readyToCall_7 : decode cX1_readyToCall 7 = .ok (.putfield 42, 3) := by decide +kernel
theorem dX1_readyToCall_10 : decode cX1_readyToCall 10 = .ok (.aload_n 0, 1) := by decide +kernel
theorem dX1_readyToCall_11 : decode cX1_readyToCall 11 = .ok (.iconst 1, 1) := by decide +kernel
theorem dX1_readyToCall_12 : decode cX1_readyToCall 12 = .ok (.putfield 46, 3) := by decide +kernel
theorem dX1_readyToCall_15 : decode cX1_readyToCall 15 = .ok (.aload_n 0, 1) := by decide +kernel
theorem dX1_readyToCall_16 : decode cX1_readyToCall 16 = .ok (.aload_n 1, 1) := by decide +kernel
theorem dX1_readyToCall_17 : decode cX1_readyToCall 17 = .ok (.getfield 52, 3) := by decide +kernel
theorem dX1_readyToCall_20 : decode cX1_readyToCall 20 = .ok (.putfield 49, 3) := by decide +kernel
theorem dX1_readyToCall_23 : decode cX1_readyToCall 23 = .ok (.return_, 1) := by decide +kernel
theorem dX1_go_0 : decode cX1_go 0 = .ok (.aload_n 0, 1) := by decide +kernel
theorem dX1_go_1 : decode cX1_go 1 = .ok (.invokevirtual 57, 3) := by decide +kernel
theorem dX1_go_4 : decode cX1_go 4 = .ok (.iconst 0, 1) := by decide +kernel
theorem dX1_go_5 : decode cX1_go 5 = .ok (.istore_n 1, 1) := by decide +kernel
theorem dX1_go_6 : decode cX1_go 6 = .ok (.iload_n 1, 1) := by decide +kernel
theorem dX1_go_7 : decode cX1_go 7 = .ok (.ldc 60, 2) := by decide +kernel
theorem dX1_go_9 : decode cX1_go 9 = .ok (.if_icmp .ge 305, 3) := by decide +kernel
theorem dX1_go_12 : decode cX1_go 12 = .ok (.aload_n 0, 1) := by decide +kernel
theorem dX1_go_13 : decode cX1_go 13 = .ok (.getfield 61, 3) := by decide +kernel
theorem dX1_go_16 : decode cX1_go 16 = .ok (.ifCond .ne 298, 3) := by decide +kernel
theorem dX1_go_19 : decode cX1_go 19 = .ok (.aload_n 0, 1) := by decide +kernel
theorem dX1_go_20 : decode cX1_go 20 = .ok (.getfield 49, 3) := by decide +kernel
theorem dX1_go_23 : decode cX1_go 23 = .ok (.ifCond .lt 21, 3) := by decide +kernel
theorem dX1_go_26 : decode cX1_go 26 = .ok (.aload_n 0, 1) := by decide +kernel
theorem dX1_go_27 : decode cX1_go 27 = .ok (.getfield 49, 3) := by decide +kernel
theorem dX1_go_30 : decode cX1_go 30 = .ok (.aload_n 0, 1) := by decide +kernel
theorem dX1_go_31 : decode cX1_go 31 = .ok (.getfield 30, 3) := by decide +kernel
theorem dX1_go_34 : decode cX1_go 34 = .ok (.getfield 64, 3) := by decide +kernel
theorem dX1_go_37 : decode cX1_go 37 = .ok (.if_icmp .ge 7, 3) := by decide +kernel
theorem dX1_go_40 : decode cX1_go 40 = .ok (.iconst 1, 1) := by decide +kernel
theorem dX1_go_41 : decode cX1_go 41 = .ok (.goto 4, 3) := by decide +kernel
theorem dX1_go_44 : decode cX1_go 44 = .ok (.iconst 0, 1) := by decide +kernel
theorem dX1_go_45 : decode cX1_go 45 = .ok (.istore_n 2, 1) := by decide +kernel
theorem dX1_go_46 : decode cX1_go 46 = .ok (.iload_n 2, 1) := by decide +kernel
theorem dX1_go_47 : decode cX1_go 47 = .ok (.ifCond .eq 18, 3) := by decide +kernel
theorem dX1_go_50 : decode cX1_go 50 = .ok (.aload_n 0, 1) := by decide +kernel
theorem dX1_go_51 : decode cX1_go 51 = .ok (.getfield 30, 3) := by decide +kernel
theorem dX1_go_54 : decode cX1_go 54 = .ok (.getfield 69, 3) := by decide +kernel
theorem dX1_go_57 : decode cX1_go 57 = .ok (.aload_n 0, 1) := by decide +kernel
theorem dX1_go_58 : decode cX1_go 58 = .ok (.getfield 49, 3) := by decide +kernel
theorem dX1_go_61 : decode cX1_go 61 = .ok (.iaload, 1) := by decide +kernel
theorem dX1_go_62 : decode cX1_go 62 = .ok (.goto 5, 3) := by decide +kernel
theorem dX1_go_65 : decode cX1_go 65 = .ok (.bipush 19, 2) := by decide +kernel
theorem dX1_go_67 : decode cX1_go 67 = .ok (.istore_n 3, 1) := by decide +kernel
theorem dX1_go_68 : decode cX1_go 68 = .ok (.iload_n 2, 1) := by decide +kernel
theorem dX1_go_69 : decode cX1_go 69 = .ok (.ifCond .eq 18, 3) := by decide +kernel
theorem dX1_go_72 : decode cX1_go 72 = .ok (.aload_n 0, 1) := by decide +kernel
theorem dX1_go_73 : decode cX1_go 73 = .ok (.getfield 30, 3) := by decide +kernel
theorem dX1_go_76 : decode cX1_go 76 = .ok (.getfield 72, 3) := by decide +kernel
theorem dX1_go_79 : decode cX1_go 79 = .ok (.aload_n 0, 1) := by decide +kernel
theorem dX1_go_80 : decode cX1_go 80 = .ok (.getfield 49, 3) := by decide +kernel
theorem dX1_go_83 : decode cX1_go 83 = .ok (.iaload, 1) := by decide +kernel
theorem dX1_go_84 : decode cX1_go 84 = .ok (.goto 4, 3) := by decide +kernel
theorem dX1_go_87 : decode cX1_go 87 = .ok (.iconst 0, 1) := by decide +kernel
theorem dX1_go_88 : decode cX1_go 88 = .ok (.istore 4, 2) := by decide +kernel
theorem dX1_go_90 : decode cX1_go 90 = .ok (.aload_n 0, 1) := by decide +kernel
theorem dX1_go_91 : decode cX1_go 91 = .ok (.dup, 1) := by decide +kernel
theorem dX1_go_92 : decode cX1_go 92 = .ok (.getfield 49, 3) := by decide +kernel
theorem dX1_go_95 : decode cX1_go 95 = .ok (.iconst 1, 1) := by decide +kernel
theorem dX1_go_96 : decode cX1_go 96 = .ok (.iadd, 1) := by decide +kernel
theorem dX1_go_97 : decode cX1_go 97 = .ok (.putfield 49, 3) := by decide +kernel
theorem dX1_go_100 : decode cX1_go 100 = .ok (.iload_n 3, 1) := by decide +kernel
theorem dX1_go_101 : decode cX1_go 101 = .ok (.iconst 5, 1) := by decide +kernel
theorem dX1_go_102 : decode cX1_go 102 = .ok (.if_icmp .gt 17, 3) := by decide +kernel
theorem dX1_go_105 : decode cX1_go 105 = .ok (.aload_n 0, 1) := by decide +kernel
theorem dX1_go_106 : decode cX1_go 106 = .ok (.aload_n 0, 1) := by decide +kernel
theorem dX1_go_107 : decode cX1_go 107 = .ok (.iload_n 3, 1) := by decide +kernel
theorem dX1_go_108 : decode cX1_go 108 = .ok (.iload 4, 2) := by decide +kernel
theorem dX1_go_110 : decode cX1_go 110 = .ok (.invokevirtual 75, 3) := by decide +kernel
theorem dX1_go_113 : decode cX1_go 113 = .ok (.invokevirtual 79, 3) := by decide +kernel
theorem dX1_go_116 : decode cX1_go 116 = .ok (.goto 192, 3) := by decide +kernel
theorem dX1_go_119 : decode cX1_go 119 = .ok (.iload_n 3, 1) := by decide +kernel
theorem dX1_go_120 : decode cX1_go 120 = .ok (.bipush 11, 2) := by decide +kernel
theorem dX1_go_122 : decode cX1_go 122 = .ok (.if_icmp .gt 21, 3) := by decide +kernel
theorem dX1_go_125 : decode cX1_go 125 = .ok (.aload_n 0, 1) := by decide +kernel
theorem dX1_go_126 : decode cX1_go 126 = .ok (.aload_n 0, 1) := by decide +kernel
theorem dX1_go_127 : decode cX1_go 127 = .ok (.iload_n 3, 1) := by decide +kernel
theorem dX1_go_128 : decode cX1_go 128 = .ok (.iload 4, 2) := by decide +kernel
theorem dX1_go_130 : decode cX1_go 130 = .ok (.aload_n 0, 1) := by decide +kernel
theorem dX1_go_131 : decode cX1_go 131 = .ok (.invokevirtual 83, 3) := by decide +kernel
theorem dX1_go_134 : decode cX1_go 134 = .ok (.invokevirtual 87, 3) := by decide +kernel
theorem dX1_go_137 : decode cX1_go 137 = .ok (.invokevirtual 79, 3) := by decide +kernel
theorem dX1_go_140 : decode cX1_go 140 = .ok (.goto 168, 3) := by decide +kernel
theorem dX1_go_143 : decode cX1_go 143 = .ok (.iload_n 3, 1) := by decide +kernel
theorem dX1_go_144 : decode cX1_go 144 = .ok (.bipush 16, 2) := by decide +kernel
theorem dX1_go_146 : decode cX1_go 146 = .ok (.if_icmp .gt 13, 3) := by decide +kernel
theorem dX1_go_149 : decode cX1_go 149 = .ok (.aload_n 0, 1) := by decide +kernel
theorem dX1_go_150 : decode cX1_go 150 = .ok (.iload_n 3, 1) := by decide +kernel
theorem dX1_go_151 : decode cX1_go 151 = .ok (.iload 4, 2) := by decide +kernel
theorem dX1_go_153 : decode cX1_go 153 = .ok (.invokevirtual 91, 3) := by decide +kernel
theorem dX1_go_156 : decode cX1_go 156 = .ok (.goto 152, 3) := by decide +kernel
theorem dX1_go_159 : decode cX1_go 159 = .ok (.iload_n 3, 1) := by decide +kernel
theorem dX1_go_160 : decode cX1_go 160 = .ok (.bipush 17, 2) := by decide +kernel
theorem dX1_go_162 : decode cX1_go 162 = .ok (.if_icmp .ne 36, 3) := by decide +kernel
theorem dX1_go_165 : decode cX1_go 165 = .ok (.aload_n 0, 1) := by decide +kernel
theorem dX1_go_166 : decode cX1_go 166 = .ok (.iload 4, 2) := by decide +kernel
theorem dX1_go_168 : decode cX1_go 168 = .ok (.aload_n 0, 1) := by decide +kernel
theorem dX1_go_169 : decode cX1_go 169 = .ok (.getfield 34, 3) := by decide +kernel
theorem dX1_go_172 : decode cX1_go 172 = .ok (.getfield 95, 3) := by decide +kernel
theorem dX1_go_175 : decode cX1_go 175 = .ok (.if_icmp .ge 16, 3) := by decide +kernel
theorem dX1_go_178 : decode cX1_go 178 = .ok (.aload_n 0, 1) := by decide +kernel
theorem dX1_go_179 : decode cX1_go 179 = .ok (.getfield 34, 3) := by decide +kernel
theorem dX1_go_182 : decode cX1_go 182 = .ok (.getfield 100, 3) := by decide +kernel
theorem dX1_go_185 : decode cX1_go 185 = .ok (.iload 4, 2) := by decide +kernel
theorem dX1_go_187 : decode cX1_go 187 = .ok (.iaload, 1) := by decide +kernel
theorem dX1_go_188 : decode cX1_go 188 = .ok (.goto 4, 3) := by decide +kernel
theorem dX1_go_191 : decode cX1_go 191 = .ok (.iconst (-1), 1) := by decide +kernel
theorem dX1_go_192 : decode cX1_go 192 = .ok (.invokevirtual 103, 3) := by decide +kernel
theorem dX1_go_195 : decode cX1_go 195 = .ok (.goto 113, 3) := by decide +kernel
theorem dX1_go_198 : decode cX1_go 198 = .ok (.iload_n 3, 1) := by decide +kernel
theorem dX1_go_199 : decode cX1_go 199 = .ok (.bipush 18, 2) := by decide +kernel
theorem dX1_go_201 : decode cX1_go 201 = .ok (.if_icmp .ne 12, 3) := by decide +kernel
theorem dX1_go_204 : decode cX1_go 204 = .ok (.aload_n 0, 1) := by decide +kernel
theorem dX1_go_205 : decode cX1_go 205 = .ok (.iload 4, 2) := by decide +kernel
theorem dX1_go_207 : decode cX1_go 207 = .ok (.invokevirtual 103, 3) := by decide +kernel
theorem dX1_go_210 : decode cX1_go 210 = .ok (.goto 98, 3) := by decide +kernel
theorem dX1_go_213 : decode cX1_go 213 = .ok (.iload_n 3, 1) := by decide +kernel
theorem dX1_go_214 : decode cX1_go 214 = .ok (.bipush 19, 2) := by decide +kernel
theorem dX1_go_216 : decode cX1_go 216 = .ok (.if_icmp .ne 11, 3) := by decide +kernel
theorem dX1_go_219 : decode cX1_go 219 = .ok (.aload_n 0, 1) := by decide +kernel
theorem dX1_go_220 : decode cX1_go 220 = .ok (.iconst 0, 1) := by decide +kernel
theorem dX1_go_221 : decode cX1_go 221 = .ok (.invokevirtual 106, 3) := by decide +kernel
theorem dX1_go_224 : decode cX1_go 224 = .ok (.goto 84, 3) := by decide +kernel
theorem dX1_go_227 : decode cX1_go 227 = .ok (.iload_n 3, 1) := by decide +kernel
theorem dX1_go_228 : decode cX1_go 228 = .ok (.bipush 26, 2) := by decide +kernel
theorem dX1_go_230 : decode cX1_go 230 = .ok (.if_icmp .ne 14, 3) := by decide +kernel
theorem dX1_go_233 : decode cX1_go 233 = .ok (.aload_n 0, 1) := by decide +kernel
theorem dX1_go_234 : decode cX1_go 234 = .ok (.aload_n 0, 1) := by decide +kernel
theorem dX1_go_235 : decode cX1_go 235 = .ok (.invokevirtual 83, 3) := by decide +kernel
theorem dX1_go_238 : decode cX1_go 238 = .ok (.invokevirtual 106, 3) := by decide +kernel
theorem dX1_go_241 : decode cX1_go 241 = .ok (.goto 67, 3) := by decide +kernel
theorem dX1_go_244 : decode cX1_go 244 = .ok (.iload_n 3, 1) := by decide +kernel
theorem dX1_go_245 : decode cX1_go 245 = .ok (.bipush 25, 2) := by decide +kernel
theorem dX1_go_247 : decode cX1_go 247 = .ok (.if_icmp .gt 17, 3) := by decide +kernel
theorem dX1_go_250 : decode cX1_go 250 = .ok (.aload_n 0, 1) := by decide +kernel
theorem dX1_go_251 : decode cX1_go 251 = .ok (.iload_n 3, 1) := by decide +kernel
theorem dX1_go_252 : decode cX1_go 252 = .ok (.iload 4, 2) := by decide +kernel
theorem dX1_go_254 : decode cX1_go 254 = .ok (.aload_n 0, 1) := by decide +kernel
theorem dX1_go_255 : decode cX1_go 255 = .ok (.invokevirtual 83, 3) := by decide +kernel
theorem dX1_go_258 : decode cX1_go 258 = .ok (.invokevirtual 109, 3) := by decide +kernel
theorem dX1_go_261 : decode cX1_go 261 = .ok (.goto 47, 3) := by decide +kernel
theorem dX1_go_264 : decode cX1_go 264 = .ok (.aload_n 0, 1) := by decide +kernel
theorem dX1_go_265 : decode cX1_go 265 = .ok (.invokevirtual 83, 3) := by decide +kernel
theorem dX1_go_268 : decode cX1_go 268 = .ok (.istore 5, 2) := by decide +kernel
theorem dX1_go_270 : decode cX1_go 270 = .ok (.aload_n 0, 1) := by decide +kernel
theorem dX1_go_271 : decode cX1_go 271 = .ok (.invokevirtual 83, 3) := by decide +kernel
theorem dX1_go_274 : decode cX1_go 274 = .ok (.istore 6, 2) := by decide +kernel
theorem dX1_go_276 : decode cX1_go 276 = .ok (.iload_n 3, 1) := by decide +kernel
theorem dX1_go_277 : decode cX1_go 277 = .ok (.bipush 27, 2) := by decide +kernel
theorem dX1_go_279 : decode cX1_go 279 = .ok (.if_icmp .ne 16, 3) := by decide +kernel
theorem dX1_go_282 : decode cX1_go 282 = .ok (.aload_n 0, 1) := by decide +kernel
theorem dX1_go_283 : decode cX1_go 283 = .ok (.iload 4, 2) := by decide +kernel
theorem dX1_go_285 : decode cX1_go 285 = .ok (.iload 6, 2) := by decide +kernel
theorem dX1_go_287 : decode cX1_go 287 = .ok (.iload 5, 2) := by decide +kernel
theorem dX1_go_289 : decode cX1_go 289 = .ok (.invokevirtual 113, 3) := by decide +kernel
theorem dX1_go_292 : decode cX1_go 292 = .ok (.goto 16, 3) := by decide +kernel
theorem dX1_go_295 : decode cX1_go 295 = .ok (.aload_n 0, 1) := by decide +kernel
theorem dX1_go_296 : decode cX1_go 296 = .ok (.aload_n 0, 1) := by decide +kernel
theorem dX1_go_297 : decode cX1_go 297 = .ok (.iload_n 3, 1) := by decide +kernel
theorem dX1_go_298 : decode cX1_go 298 = .ok (.iload 6, 2) := by decide +kernel
theorem dX1_go_300 : decode cX1_go 300 = .ok (.iload 5, 2) := by decide +kernel
theorem dX1_go_302 : decode cX1_go 302 = .ok (.invokevirtual 116, 3) := by decide +kernel
theorem dX1_go_305 : decode cX1_go 305 = .ok (.invokevirtual 79, 3) := by decide +kernel
theorem dX1_go_308 : decode cX1_go 308 = .ok (.iinc 1 1, 3) := by decide +kernel
theorem dX1_go_311 : decode cX1_go 311 = .ok (.goto (-305), 3) := by decide +kernel
theorem dX1_go_314 : decode cX1_go 314 = .ok (.aload_n 0, 1) := by decide +kernel
theorem dX1_go_315 : decode cX1_go 315 = .ok (.aload_n 0, 1) := by decide +kernel
theorem dX1_go_316 : decode cX1_go 316 = .ok (.getfield 61, 3) := by decide +kernel
theorem dX1_go_319 : decode cX1_go 319 = .ok (.ifCond .ne 7, 3) := by decide +kernel
theorem dX1_go_322 : decode cX1_go 322 = .ok (.iconst 3, 1) := by decide +kernel
theorem dX1_go_323 : decode cX1_go 323 = .ok (.goto 7, 3) := by decide +kernel
theorem dX1_go_326 : decode cX1_go 326 = .ok (.aload_n 0, 1) := by decide +kernel
theorem dX1_go_327 : decode cX1_go 327 = .ok (.getfield 61, 3) := by decide +kernel
theorem dX1_go_330 : decode cX1_go 330 = .ok (.putfield 61, 3) := by decide +kernel
theorem dX1_go_333 : decode cX1_go 333 = .ok (.return_, 1) := by decide +kernel
theorem dX1_begin_0 : decode cX1_begin 0 = .ok (.aload_n 0, 1) := by decide +kernel
theorem dX1_begin_1 : decode cX1_begin 1 = .ok (.aload_n 0, 1) := by decide +kernel
theorem dX1_begin_2 : decode cX1_begin 2 = .ok (.getfield 46, 3) := by decide +kernel
theorem dX1_begin_5 : decode cX1_begin 5 = .ok (.putfield 119, 3) := by decide +kernel
theorem dX1_begin_8 : decode cX1_begin 8 = .ok (.aload_n 0, 1) := by decide +kernel
theorem dX1_begin_9 : decode cX1_begin 9 = .ok (.iconst 0, 1) := by decide +kernel
theorem dX1_begin_10 : decode cX1_begin 10 = .ok (.putfield 122, 3) := by decide +kernel
theorem dX1_begin_13 : decode cX1_begin 13 = .ok (.aload_n 0, 1) := by decide +kernel
theorem dX1_begin_14 : decode cX1_begin 14 = .ok (.iconst 0, 1) := by decide +kernel
theorem dX1_begin_15 : decode cX1_begin 15 = .ok (.putfield 125, 3) := by decide +kernel
theorem dX1_begin_18 : decode cX1_begin 18 = .ok (.aload_n 0, 1) := by decide +kernel
theorem dX1_begin_19 : decode cX1_begin 19 = .ok (.iconst 0, 1) := by decide +kernel
theorem dX1_begin_20 : decode cX1_begin 20 = .ok (.putfield 61, 3) := by decide +kernel
theorem dX1_begin_23 : decode cX1_begin 23 = .ok (.aload_n 0, 1) := by decide +kernel
theorem dX1_begin_24 : decode cX1_begin 24 = .ok (.iconst 0, 1) := by decide +kernel
theorem dX1_begin_25 : decode cX1_begin 25 = .ok (.putfield 128, 3) := by decide +kernel
theorem dX1_begin_28 : decode cX1_begin 28 = .ok (.iconst 0, 1) := by decide +kernel
theorem dX1_begin_29 : decode cX1_begin 29 = .ok (.istore_n 1, 1) := by decide +kernel
theorem dX1_begin_30 : decode cX1_begin 30 = .ok (.iload_n 1, 1) := by decide +kernel
theorem dX1_begin_31 : decode cX1_begin 31 = .ok (.iconst 3, 1) := by decide +kernel
theorem dX1_begin_32 : decode cX1_begin 32 = .ok (.if_icmp .ge 38, 3) := by decide +kernel
theorem dX1_begin_35 : decode cX1_begin 35 = .ok (.iload_n 1, 1) := by decide +kernel
theorem dX1_begin_36 : decode cX1_begin 36 = .ok (.aload_n 0, 1) := by decide +kernel
theorem dX1_begin_37 : decode cX1_begin 37 = .ok (.getfield 27, 3) := by decide +kernel
theorem dX1_begin_40 : decode cX1_begin 40 = .ok (.arraylength, 1) := by decide +kernel
theorem dX1_begin_41 : decode cX1_begin 41 = .ok (.if_icmp .ge 29, 3) := by decide +kernel
theorem dX1_begin_44 : decode cX1_begin 44 = .ok (.aload_n 0, 1) := by decide +kernel
theorem dX1_begin_45 : decode cX1_begin 45 = .ok (.getfield 15, 3) := by decide +kernel
theorem dX1_begin_48 : decode cX1_begin 48 = .ok (.aload_n 0, 1) := by decide +kernel
theorem dX1_begin_49 : decode cX1_begin 49 = .ok (.getfield 119, 3) := by decide +kernel
theorem dX1_begin_52 : decode cX1_begin 52 = .ok (.bipush 11, 2) := by decide +kernel
theorem dX1_begin_54 : decode cX1_begin 54 = .ok (.imul, 1) := by decide +kernel
theorem dX1_begin_55 : decode cX1_begin 55 = .ok (.iload_n 1, 1) := by decide +kernel
theorem dX1_begin_56 : decode cX1_begin 56 = .ok (.iadd, 1) := by decide +kernel
theorem dX1_begin_57 : decode cX1_begin 57 = .ok (.aload_n 0, 1) := by decide +kernel
theorem dX1_begin_58 : decode cX1_begin 58 = .ok (.getfield 27, 3) := by decide +kernel
theorem dX1_begin_61 : decode cX1_begin 61 = .ok (.iload_n 1, 1) := by decide +kernel
theorem dX1_begin_62 : decode cX1_begin 62 = .ok (.iaload, 1) := by decide +kernel
theorem dX1_begin_63 : decode cX1_begin 63 = .ok (.iastore, 1) := by decide +kernel
theorem dX1_begin_64 : decode cX1_begin 64 = .ok (.iinc 1 1, 3) := by decide +kernel
theorem dX1_begin_67 : decode cX1_begin 67 = .ok (.goto (-37), 3) := by decide +kernel
theorem dX1_begin_70 : decode cX1_begin 70 = .ok (.return_, 1) := by decide +kernel
theorem dX1_push_0 : decode cX1_push 0 = .ok (.aload_n 0, 1) := by decide +kernel
theorem dX1_push_1 : decode cX1_push 1 = .ok (.getfield 122, 3) := by decide +kernel
theorem dX1_push_4 : decode cX1_push 4 = .ok (.sipush 700, 3) := by decide +kernel
theorem dX1_push_7 : decode cX1_push 7 = .ok (.if_icmp .ge 23, 3) := by decide +kernel
theorem dX1_push_10 : decode cX1_push 10 = .ok (.aload_n 0, 1) := by decide +kernel
theorem dX1_push_11 : decode cX1_push 11 = .ok (.getfield 11, 3) := by decide +kernel
theorem dX1_push_14 : decode cX1_push 14 = .ok (.aload_n 0, 1) := by decide +kernel
theorem dX1_push_15 : decode cX1_push 15 = .ok (.getfield 122, 3) := by decide +kernel
theorem dX1_push_18 : decode cX1_push 18 = .ok (.iload_n 1, 1) := by decide +kernel
theorem dX1_push_19 : decode cX1_push 19 = .ok (.iastore, 1) := by decide +kernel
theorem dX1_push_20 : decode cX1_push 20 = .ok (.aload_n 0, 1) := by decide +kernel
theorem dX1_push_21 : decode cX1_push 21 = .ok (.dup, 1) := by decide +kernel
theorem dX1_push_22 : decode cX1_push 22 = .ok (.getfield 122, 3) := by decide +kernel
theorem dX1_push_25 : decode cX1_push 25 = .ok (.iconst 1, 1) := by decide +kernel
theorem dX1_push_26 : decode cX1_push 26 = .ok (.iadd, 1) := by decide +kernel
theorem dX1_push_27 : decode cX1_push 27 = .ok (.putfield 122, 3) := by decide +kernel
theorem dX1_push_30 : decode cX1_push 30 = .ok (.return_, 1) := by decide +kernel
theorem dX1_pop_0 : decode cX1_pop 0 = .ok (.aload_n 0, 1) := by decide +kernel
theorem dX1_pop_1 : decode cX1_pop 1 = .ok (.getfield 122, 3) := by decide +kernel
theorem dX1_pop_4 : decode cX1_pop 4 = .ok (.ifCond .ne 5, 3) := by decide +kernel
theorem dX1_pop_7 : decode cX1_pop 7 = .ok (.iconst 0, 1) := by decide +kernel
theorem dX1_pop_8 : decode cX1_pop 8 = .ok (.ireturn, 1) := by decide +kernel
theorem dX1_pop_9 : decode cX1_pop 9 = .ok (.aload_n 0, 1) := by decide +kernel
theorem dX1_pop_10 : decode cX1_pop 10 = .ok (.dup, 1) := by decide +kernel
theorem dX1_pop_11 : decode cX1_pop 11 = .ok (.getfield 122, 3) := by decide +kernel
theorem dX1_pop_14 : decode cX1_pop 14 = .ok (.iconst 1, 1) := by decide +kernel
theorem dX1_pop_15 : decode cX1_pop 15 = .ok (.isub, 1) := by decide +kernel
theorem dX1_pop_16 : decode cX1_pop 16 = .ok (.putfield 122, 3) := by decide +kernel
theorem dX1_pop_19 : decode cX1_pop 19 = .ok (.aload_n 0, 1) := by decide +kernel
theorem dX1_pop_20 : decode cX1_pop 20 = .ok (.getfield 11, 3) := by decide +kernel
theorem dX1_pop_23 : decode cX1_pop 23 = .ok (.aload_n 0, 1) := by decide +kernel
theorem dX1_pop_24 : decode cX1_pop 24 = .ok (.getfield 122, 3) := by decide +kernel
theorem dX1_pop_27 : decode cX1_pop 27 = .ok (.iaload, 1) := by decide +kernel
theorem dX1_pop_28 : decode cX1_pop 28 = .ok (.ireturn, 1) := by decide +kernel
theorem dX1_fetch_0 : decode cX1_fetch 0 = .ok (.iload_n 2, 1) := by decide +kernel
theorem dX1_fetch_1 : decode cX1_fetch 1 = .ok (.iconst 4, 1) := by decide +kernel
theorem dX1_fetch_2 : decode cX1_fetch 2 = .ok (.ishr, 1) := by decide +kernel
theorem dX1_fetch_3 : decode cX1_fetch 3 = .ok (.istore_n 3, 1) := by decide +kernel
theorem dX1_fetch_4 : decode cX1_fetch 4 = .ok (.iload_n 1, 1) := by decide +kernel
theorem dX1_fetch_5 : decode cX1_fetch 5 = .ok (.tableswitch 88 1 4 #[31, 33, 48, 68], 31) := by decide +kernel
theorem dX1_fetch_36 : decode cX1_fetch 36 = .ok (.iload_n 2, 1) := by decide +kernel
theorem dX1_fetch_37 : decode cX1_fetch 37 = .ok (.ireturn, 1) := by decide +kernel
theorem dX1_fetch_38 : decode cX1_fetch 38 = .ok (.aload_n 0, 1) := by decide +kernel
theorem dX1_fetch_39 : decode cX1_fetch 39 = .ok (.getfield 15, 3) := by decide +kernel
theorem dX1_fetch_42 : decode cX1_fetch 42 = .ok (.aload_n 0, 1) := by decide +kernel
theorem dX1_fetch_43 : decode cX1_fetch 43 = .ok (.getfield 119, 3) := by decide +kernel
theorem dX1_fetch_46 : decode cX1_fetch 46 = .ok (.bipush 11, 2) := by decide +kernel
theorem dX1_fetch_48 : decode cX1_fetch 48 = .ok (.imul, 1) := by decide +kernel
theorem dX1_fetch_49 : decode cX1_fetch 49 = .ok (.iload_n 2, 1) := by decide +kernel
theorem dX1_fetch_50 : decode cX1_fetch 50 = .ok (.iadd, 1) := by decide +kernel
theorem dX1_fetch_51 : decode cX1_fetch 51 = .ok (.iaload, 1) := by decide +kernel
theorem dX1_fetch_52 : decode cX1_fetch 52 = .ok (.ireturn, 1) := by decide +kernel
theorem dX1_fetch_53 : decode cX1_fetch 53 = .ok (.iload_n 3, 1) := by decide +kernel
theorem dX1_fetch_54 : decode cX1_fetch 54 = .ok (.aload_n 0, 1) := by decide +kernel
theorem dX1_fetch_55 : decode cX1_fetch 55 = .ok (.getfield 21, 3) := by decide +kernel
theorem dX1_fetch_58 : decode cX1_fetch 58 = .ok (.arraylength, 1) := by decide +kernel
theorem dX1_fetch_59 : decode cX1_fetch 59 = .ok (.if_icmp .ge 12, 3) := by decide +kernel
theorem dX1_fetch_62 : decode cX1_fetch 62 = .ok (.aload_n 0, 1) := by decide +kernel
theorem dX1_fetch_63 : decode cX1_fetch 63 = .ok (.getfield 21, 3) := by decide +kernel
theorem dX1_fetch_66 : decode cX1_fetch 66 = .ok (.iload_n 3, 1) := by decide +kernel
theorem dX1_fetch_67 : decode cX1_fetch 67 = .ok (.iaload, 1) := by decide +kernel
theorem dX1_fetch_68 : decode cX1_fetch 68 = .ok (.goto 4, 3) := by decide +kernel
theorem dX1_fetch_71 : decode cX1_fetch 71 = .ok (.iconst 0, 1) := by decide +kernel
theorem dX1_fetch_72 : decode cX1_fetch 72 = .ok (.ireturn, 1) := by decide +kernel
theorem dX1_fetch_73 : decode cX1_fetch 73 = .ok (.iload_n 3, 1) := by decide +kernel
theorem dX1_fetch_74 : decode cX1_fetch 74 = .ok (.aload_n 0, 1) := by decide +kernel
theorem dX1_fetch_75 : decode cX1_fetch 75 = .ok (.getfield 24, 3) := by decide +kernel
theorem dX1_fetch_78 : decode cX1_fetch 78 = .ok (.arraylength, 1) := by decide +kernel
theorem dX1_fetch_79 : decode cX1_fetch 79 = .ok (.if_icmp .ge 12, 3) := by decide +kernel
theorem dX1_fetch_82 : decode cX1_fetch 82 = .ok (.aload_n 0, 1) := by decide +kernel
theorem dX1_fetch_83 : decode cX1_fetch 83 = .ok (.getfield 24, 3) := by decide +kernel
theorem dX1_fetch_86 : decode cX1_fetch 86 = .ok (.iload_n 3, 1) := by decide +kernel
theorem dX1_fetch_87 : decode cX1_fetch 87 = .ok (.iaload, 1) := by decide +kernel
theorem dX1_fetch_88 : decode cX1_fetch 88 = .ok (.goto 4, 3) := by decide +kernel
theorem dX1_fetch_91 : decode cX1_fetch 91 = .ok (.iconst 0, 1) := by decide +kernel
theorem dX1_fetch_92 : decode cX1_fetch 92 = .ok (.ireturn, 1) := by decide +kernel
theorem dX1_fetch_93 : decode cX1_fetch 93 = .ok (.aload_n 0, 1) := by decide +kernel
theorem dX1_fetch_94 : decode cX1_fetch 94 = .ok (.getfield 42, 3) := by decide +kernel
theorem dX1_fetch_97 : decode cX1_fetch 97 = .ok (.ireturn, 1) := by decide +kernel
theorem dX1_turn_0 : decode cX1_turn 0 = .ok (.iload_n 1, 1) := by decide +kernel
theorem dX1_turn_1 : decode cX1_turn 1 = .ok (.bipush 6, 2) := by decide +kernel
theorem dX1_turn_3 : decode cX1_turn 3 = .ok (.if_icmp .ne 6, 3) := by decide +kernel
theorem dX1_turn_6 : decode cX1_turn 6 = .ok (.iload_n 3, 1) := by decide +kernel
theorem dX1_turn_7 : decode cX1_turn 7 = .ok (.ineg, 1) := by decide +kernel
theorem dX1_turn_8 : decode cX1_turn 8 = .ok (.ireturn, 1) := by decide +kernel
theorem dX1_turn_9 : decode cX1_turn 9 = .ok (.iload_n 1, 1) := by decide +kernel
theorem dX1_turn_10 : decode cX1_turn 10 = .ok (.bipush 7, 2) := by decide +kernel
theorem dX1_turn_12 : decode cX1_turn 12 = .ok (.if_icmp .ne 13, 3) := by decide +kernel
theorem dX1_turn_15 : decode cX1_turn 15 = .ok (.iload_n 3, 1) := by decide +kernel
theorem dX1_turn_16 : decode cX1_turn 16 = .ok (.ifCond .ne 7, 3) := by decide +kernel
theorem dX1_turn_19 : decode cX1_turn 19 = .ok (.iconst 1, 1) := by decide +kernel
theorem dX1_turn_20 : decode cX1_turn 20 = .ok (.goto 4, 3) := by decide +kernel
theorem dX1_turn_23 : decode cX1_turn 23 = .ok (.iconst 0, 1) := by decide +kernel
theorem dX1_turn_24 : decode cX1_turn 24 = .ok (.ireturn, 1) := by decide +kernel
theorem dX1_turn_25 : decode cX1_turn 25 = .ok (.iload_n 1, 1) := by decide +kernel
theorem dX1_turn_26 : decode cX1_turn 26 = .ok (.bipush 8, 2) := by decide +kernel
theorem dX1_turn_28 : decode cX1_turn 28 = .ok (.if_icmp .ne 13, 3) := by decide +kernel
theorem dX1_turn_31 : decode cX1_turn 31 = .ok (.iload_n 3, 1) := by decide +kernel
theorem dX1_turn_32 : decode cX1_turn 32 = .ok (.ifCond .ne 7, 3) := by decide +kernel
theorem dX1_turn_35 : decode cX1_turn 35 = .ok (.iconst 0, 1) := by decide +kernel
theorem dX1_turn_36 : decode cX1_turn 36 = .ok (.goto 4, 3) := by decide +kernel
theorem dX1_turn_39 : decode cX1_turn 39 = .ok (.iconst 1, 1) := by decide +kernel
theorem dX1_turn_40 : decode cX1_turn 40 = .ok (.ireturn, 1) := by decide +kernel
theorem dX1_turn_41 : decode cX1_turn 41 = .ok (.iload_n 3, 1) := by decide +kernel
theorem dX1_turn_42 : decode cX1_turn 42 = .ok (.ifCond .lt 11, 3) := by decide +kernel
theorem dX1_turn_45 : decode cX1_turn 45 = .ok (.iload_n 3, 1) := by decide +kernel
theorem dX1_turn_46 : decode cX1_turn 46 = .ok (.iload_n 2, 1) := by decide +kernel
theorem dX1_turn_47 : decode cX1_turn 47 = .ok (.bipush 15, 2) := by decide +kernel
theorem dX1_turn_49 : decode cX1_turn 49 = .ok (.iand, 1) := by decide +kernel
theorem dX1_turn_50 : decode cX1_turn 50 = .ok (.if_icmp .lt 17, 3) := by decide +kernel
theorem dX1_turn_53 : decode cX1_turn 53 = .ok (.aload_n 0, 1) := by decide +kernel
theorem dX1_turn_54 : decode cX1_turn 54 = .ok (.iconst 2, 1) := by decide +kernel
theorem dX1_turn_55 : decode cX1_turn 55 = .ok (.putfield 61, 3) := by decide +kernel
theorem dX1_turn_58 : decode cX1_turn 58 = .ok (.aload_n 0, 1) := by decide +kernel
theorem dX1_turn_59 : decode cX1_turn 59 = .ok (.ldc2_w 131, 3) := by decide +kernel
theorem dX1_turn_62 : decode cX1_turn 62 = .ok (.putfield 133, 3) := by decide +kernel
theorem dX1_turn_65 : decode cX1_turn 65 = .ok (.iconst 0, 1) := by decide +kernel
theorem dX1_turn_66 : decode cX1_turn 66 = .ok (.ireturn, 1) := by decide +kernel
theorem dX1_turn_67 : decode cX1_turn 67 = .ok (.iload_n 2, 1) := by decide +kernel
theorem dX1_turn_68 : decode cX1_turn 68 = .ok (.iconst 4, 1) := by decide +kernel
theorem dX1_turn_69 : decode cX1_turn 69 = .ok (.ishr, 1) := by decide +kernel
theorem dX1_turn_70 : decode cX1_turn 70 = .ok (.iload_n 3, 1) := by decide +kernel
theorem dX1_turn_71 : decode cX1_turn 71 = .ok (.iadd, 1) := by decide +kernel
theorem dX1_turn_72 : decode cX1_turn 72 = .ok (.istore 4, 2) := by decide +kernel
theorem dX1_turn_74 : decode cX1_turn 74 = .ok (.iload_n 1, 1) := by decide +kernel
theorem dX1_turn_75 : decode cX1_turn 75 = .ok (.bipush 11, 2) := by decide +kernel
theorem dX1_turn_77 : decode cX1_turn 77 = .ok (.if_icmp .eq 23, 3) := by decide +kernel
theorem dX1_turn_80 : decode cX1_turn 80 = .ok (.iload 4, 2) := by decide +kernel
theorem dX1_turn_82 : decode cX1_turn 82 = .ok (.aload_n 0, 1) := by decide +kernel
theorem dX1_turn_83 : decode cX1_turn 83 = .ok (.getfield 21, 3) := by decide +kernel
theorem dX1_turn_86 : decode cX1_turn 86 = .ok (.arraylength, 1) := by decide +kernel
theorem dX1_turn_87 : decode cX1_turn 87 = .ok (.if_icmp .ge 13, 3) := by decide +kernel
theorem dX1_turn_90 : decode cX1_turn 90 = .ok (.iload 4, 2) := by decide +kernel
theorem dX1_turn_92 : decode cX1_turn 92 = .ok (.aload_n 0, 1) := by decide +kernel
theorem dX1_turn_93 : decode cX1_turn 93 = .ok (.getfield 24, 3) := by decide +kernel
theorem dX1_turn_96 : decode cX1_turn 96 = .ok (.arraylength, 1) := by decide +kernel
theorem dX1_turn_97 : decode cX1_turn 97 = .ok (.if_icmp .lt 5, 3) := by decide +kernel
theorem dX1_turn_100 : decode cX1_turn 100 = .ok (.iload_n 3, 1) := by decide +kernel
theorem dX1_turn_101 : decode cX1_turn 101 = .ok (.ireturn, 1) := by decide +kernel
theorem dX1_turn_102 : decode cX1_turn 102 = .ok (.iload_n 1, 1) := by decide +kernel
theorem dX1_turn_103 : decode cX1_turn 103 = .ok (.bipush 9, 2) := by decide +kernel
theorem dX1_turn_105 : decode cX1_turn 105 = .ok (.if_icmp .ne 13, 3) := by decide +kernel
theorem dX1_turn_108 : decode cX1_turn 108 = .ok (.aload_n 0, 1) := by decide +kernel
theorem dX1_turn_109 : decode cX1_turn 109 = .ok (.getfield 21, 3) := by decide +kernel
theorem dX1_turn_112 : decode cX1_turn 112 = .ok (.iload 4, 2) := by decide +kernel
theorem dX1_turn_114 : decode cX1_turn 114 = .ok (.iaload, 1) := by decide +kernel
theorem dX1_turn_115 : decode cX1_turn 115 = .ok (.goto 10, 3) := by decide +kernel
theorem dX1_turn_118 : decode cX1_turn 118 = .ok (.aload_n 0, 1) := by decide +kernel
theorem dX1_turn_119 : decode cX1_turn 119 = .ok (.getfield 24, 3) := by decide +kernel
theorem dX1_turn_122 : decode cX1_turn 122 = .ok (.iload 4, 2) := by decide +kernel
theorem dX1_turn_124 : decode cX1_turn 124 = .ok (.iaload, 1) := by decide +kernel
theorem dX1_turn_125 : decode cX1_turn 125 = .ok (.ireturn, 1) := by decide +kernel
theorem dX1_reckon_0 : decode cX1_reckon 0 = .ok (.iload_n 1, 1) := by decide +kernel
theorem dX1_reckon_1 : decode cX1_reckon 1 = .ok (.lookupswitch 161 #[(42, 91), (43, 83), (45, 87), (60, 95), (62, 106), (201, 117), (202, 128), (203, 139), (204, 150)], 83) := by decide +kernel
theorem dX1_reckon_84 : decode cX1_reckon 84 = .ok (.iload_n 2, 1) := by decide +kernel
theorem dX1_reckon_85 : decode cX1_reckon 85 = .ok (.iload_n 3, 1) := by decide +kernel
theorem dX1_reckon_86 : decode cX1_reckon 86 = .ok (.iadd, 1) := by decide +kernel
theorem dX1_reckon_87 : decode cX1_reckon 87 = .ok (.ireturn, 1) := by decide +kernel
theorem dX1_reckon_88 : decode cX1_reckon 88 = .ok (.iload_n 2, 1) := by decide +kernel
theorem dX1_reckon_89 : decode cX1_reckon 89 = .ok (.iload_n 3, 1) := by decide +kernel
theorem dX1_reckon_90 : decode cX1_reckon 90 = .ok (.isub, 1) := by decide +kernel
theorem dX1_reckon_91 : decode cX1_reckon 91 = .ok (.ireturn, 1) := by decide +kernel
theorem dX1_reckon_92 : decode cX1_reckon 92 = .ok (.iload_n 2, 1) := by decide +kernel
theorem dX1_reckon_93 : decode cX1_reckon 93 = .ok (.iload_n 3, 1) := by decide +kernel
theorem dX1_reckon_94 : decode cX1_reckon 94 = .ok (.imul, 1) := by decide +kernel
theorem dX1_reckon_95 : decode cX1_reckon 95 = .ok (.ireturn, 1) := by decide +kernel
theorem dX1_reckon_96 : decode cX1_reckon 96 = .ok (.iload_n 2, 1) := by decide +kernel
theorem dX1_reckon_97 : decode cX1_reckon 97 = .ok (.iload_n 3, 1) := by decide +kernel
theorem dX1_reckon_98 : decode cX1_reckon 98 = .ok (.if_icmp .ge 7, 3) := by decide +kernel
theorem dX1_reckon_101 : decode cX1_reckon 101 = .ok (.iconst 1, 1) := by decide +kernel
theorem dX1_reckon_102 : decode cX1_reckon 102 = .ok (.goto 4, 3) := by decide +kernel
theorem dX1_reckon_105 : decode cX1_reckon 105 = .ok (.iconst 0, 1) := by decide +kernel
theorem dX1_reckon_106 : decode cX1_reckon 106 = .ok (.ireturn, 1) := by decide +kernel
theorem dX1_reckon_107 : decode cX1_reckon 107 = .ok (.iload_n 2, 1) := by decide +kernel
theorem dX1_reckon_108 : decode cX1_reckon 108 = .ok (.iload_n 3, 1) := by decide +kernel
theorem dX1_reckon_109 : decode cX1_reckon 109 = .ok (.if_icmp .le 7, 3) := by decide +kernel
theorem dX1_reckon_112 : decode cX1_reckon 112 = .ok (.iconst 1, 1) := by decide +kernel
theorem dX1_reckon_113 : decode cX1_reckon 113 = .ok (.goto 4, 3) := by decide +kernel
theorem dX1_reckon_116 : decode cX1_reckon 116 = .ok (.iconst 0, 1) := by decide +kernel
theorem dX1_reckon_117 : decode cX1_reckon 117 = .ok (.ireturn, 1) := by decide +kernel
theorem dX1_reckon_118 : decode cX1_reckon 118 = .ok (.iload_n 2, 1) := by decide +kernel
theorem dX1_reckon_119 : decode cX1_reckon 119 = .ok (.iload_n 3, 1) := by decide +kernel
theorem dX1_reckon_120 : decode cX1_reckon 120 = .ok (.if_icmp .ne 7, 3) := by decide +kernel
theorem dX1_reckon_123 : decode cX1_reckon 123 = .ok (.iconst 1, 1) := by decide +kernel
theorem dX1_reckon_124 : decode cX1_reckon 124 = .ok (.goto 4, 3) := by decide +kernel
theorem dX1_reckon_127 : decode cX1_reckon 127 = .ok (.iconst 0, 1) := by decide +kernel
theorem dX1_reckon_128 : decode cX1_reckon 128 = .ok (.ireturn, 1) := by decide +kernel
theorem dX1_reckon_129 : decode cX1_reckon 129 = .ok (.iload_n 2, 1) := by decide +kernel
theorem dX1_reckon_130 : decode cX1_reckon 130 = .ok (.iload_n 3, 1) := by decide +kernel
theorem dX1_reckon_131 : decode cX1_reckon 131 = .ok (.if_icmp .eq 7, 3) := by decide +kernel
theorem dX1_reckon_134 : decode cX1_reckon 134 = .ok (.iconst 1, 1) := by decide +kernel
theorem dX1_reckon_135 : decode cX1_reckon 135 = .ok (.goto 4, 3) := by decide +kernel
theorem dX1_reckon_138 : decode cX1_reckon 138 = .ok (.iconst 0, 1) := by decide +kernel
theorem dX1_reckon_139 : decode cX1_reckon 139 = .ok (.ireturn, 1) := by decide +kernel
theorem dX1_reckon_140 : decode cX1_reckon 140 = .ok (.iload_n 2, 1) := by decide +kernel
theorem dX1_reckon_141 : decode cX1_reckon 141 = .ok (.iload_n 3, 1) := by decide +kernel
theorem dX1_reckon_142 : decode cX1_reckon 142 = .ok (.if_icmp .gt 7, 3) := by decide +kernel
theorem dX1_reckon_145 : decode cX1_reckon 145 = .ok (.iconst 1, 1) := by decide +kernel
theorem dX1_reckon_146 : decode cX1_reckon 146 = .ok (.goto 4, 3) := by decide +kernel
theorem dX1_reckon_149 : decode cX1_reckon 149 = .ok (.iconst 0, 1) := by decide +kernel
theorem dX1_reckon_150 : decode cX1_reckon 150 = .ok (.ireturn, 1) := by decide +kernel
theorem dX1_reckon_151 : decode cX1_reckon 151 = .ok (.iload_n 2, 1) := by decide +kernel
theorem dX1_reckon_152 : decode cX1_reckon 152 = .ok (.iload_n 3, 1) := by decide +kernel
theorem dX1_reckon_153 : decode cX1_reckon 153 = .ok (.if_icmp .lt 7, 3) := by decide +kernel
theorem dX1_reckon_156 : decode cX1_reckon 156 = .ok (.iconst 1, 1) := by decide +kernel
theorem dX1_reckon_157 : decode cX1_reckon 157 = .ok (.goto 4, 3) := by decide +kernel
theorem dX1_reckon_160 : decode cX1_reckon 160 = .ok (.iconst 0, 1) := by decide +kernel
theorem dX1_reckon_161 : decode cX1_reckon 161 = .ok (.ireturn, 1) := by decide +kernel
theorem dX1_reckon_162 : decode cX1_reckon 162 = .ok (.iload_n 3, 1) := by decide +kernel
theorem dX1_reckon_163 : decode cX1_reckon 163 = .ok (.ifCond .ne 17, 3) := by decide +kernel
theorem dX1_reckon_166 : decode cX1_reckon 166 = .ok (.aload_n 0, 1) := by decide +kernel
theorem dX1_reckon_167 : decode cX1_reckon 167 = .ok (.iconst 2, 1) := by decide +kernel
theorem dX1_reckon_168 : decode cX1_reckon 168 = .ok (.putfield 61, 3) := by decide +kernel
theorem dX1_reckon_171 : decode cX1_reckon 171 = .ok (.aload_n 0, 1) := by decide +kernel
theorem dX1_reckon_172 : decode cX1_reckon 172 = .ok (.ldc2_w 137, 3) := by decide +kernel
theorem dX1_reckon_175 : decode cX1_reckon 175 = .ok (.putfield 133, 3) := by decide +kernel
theorem dX1_reckon_178 : decode cX1_reckon 178 = .ok (.iconst 0, 1) := by decide +kernel
theorem dX1_reckon_179 : decode cX1_reckon 179 = .ok (.ireturn, 1) := by decide +kernel
theorem dX1_reckon_180 : decode cX1_reckon 180 = .ok (.iload_n 1, 1) := by decide +kernel
theorem dX1_reckon_181 : decode cX1_reckon 181 = .ok (.bipush 47, 2) := by decide +kernel
theorem dX1_reckon_183 : decode cX1_reckon 183 = .ok (.if_icmp .ne 9, 3) := by decide +kernel
theorem dX1_reckon_186 : decode cX1_reckon 186 = .ok (.iload_n 2, 1) := by decide +kernel
theorem dX1_reckon_187 : decode cX1_reckon 187 = .ok (.iload_n 3, 1) := by decide +kernel
theorem dX1_reckon_188 : decode cX1_reckon 188 = .ok (.idiv, 1) := by decide +kernel
theorem dX1_reckon_189 : decode cX1_reckon 189 = .ok (.goto 6, 3) := by decide +kernel
theorem dX1_reckon_192 : decode cX1_reckon 192 = .ok (.iload_n 2, 1) := by decide +kernel
theorem dX1_reckon_193 : decode cX1_reckon 193 = .ok (.iload_n 3, 1) := by decide +kernel
theorem dX1_reckon_194 : decode cX1_reckon 194 = .ok (.irem, 1) := by decide +kernel
theorem dX1_reckon_195 : decode cX1_reckon 195 = .ok (.ireturn, 1) := by decide +kernel
theorem dX1_act_0 : decode cX1_act 0 = .ok (.iload_n 1, 1) := by decide +kernel
theorem dX1_act_1 : decode cX1_act 1 = .ok (.bipush 12, 2) := by decide +kernel
theorem dX1_act_3 : decode cX1_act 3 = .ok (.if_icmp .ne 28, 3) := by decide +kernel
theorem dX1_act_6 : decode cX1_act 6 = .ok (.iload_n 2, 1) := by decide +kernel
theorem dX1_act_7 : decode cX1_act 7 = .ok (.ifCond .lt 24, 3) := by decide +kernel
theorem dX1_act_10 : decode cX1_act 10 = .ok (.iload_n 2, 1) := by decide +kernel
theorem dX1_act_11 : decode cX1_act 11 = .ok (.aload_n 0, 1) := by decide +kernel
theorem dX1_act_12 : decode cX1_act 12 = .ok (.getfield 30, 3) := by decide +kernel
theorem dX1_act_15 : decode cX1_act 15 = .ok (.getfield 139, 3) := by decide +kernel
theorem dX1_act_18 : decode cX1_act 18 = .ok (.if_icmp .ge 13, 3) := by decide +kernel
theorem dX1_act_21 : decode cX1_act 21 = .ok (.aload_n 0, 1) := by decide +kernel
theorem dX1_act_22 : decode cX1_act 22 = .ok (.getfield 30, 3) := by decide +kernel
theorem dX1_act_25 : decode cX1_act 25 = .ok (.getfield 142, 3) := by decide +kernel
theorem dX1_act_28 : decode cX1_act 28 = .ok (.iload_n 2, 1) := by decide +kernel
theorem dX1_act_29 : decode cX1_act 29 = .ok (.iconst 1, 1) := by decide +kernel
theorem dX1_act_30 : decode cX1_act 30 = .ok (.bastore, 1) := by decide +kernel
theorem dX1_act_31 : decode cX1_act 31 = .ok (.iload_n 1, 1) := by decide +kernel
theorem dX1_act_32 : decode cX1_act 32 = .ok (.bipush 12, 2) := by decide +kernel
theorem dX1_act_34 : decode cX1_act 34 = .ok (.if_icmp .eq 9, 3) := by decide +kernel
theorem dX1_act_37 : decode cX1_act 37 = .ok (.iload_n 1, 1) := by decide +kernel
theorem dX1_act_38 : decode cX1_act 38 = .ok (.bipush 13, 2) := by decide +kernel
theorem dX1_act_40 : decode cX1_act 40 = .ok (.if_icmp .ne 38, 3) := by decide +kernel
theorem dX1_act_43 : decode cX1_act 43 = .ok (.aload_n 0, 1) := by decide +kernel
theorem dX1_act_44 : decode cX1_act 44 = .ok (.dup, 1) := by decide +kernel
theorem dX1_act_45 : decode cX1_act 45 = .ok (.getfield 125, 3) := by decide +kernel
theorem dX1_act_48 : decode cX1_act 48 = .ok (.iconst 1, 1) := by decide +kernel
theorem dX1_act_49 : decode cX1_act 49 = .ok (.iadd, 1) := by decide +kernel
theorem dX1_act_50 : decode cX1_act 50 = .ok (.putfield 125, 3) := by decide +kernel
theorem dX1_act_53 : decode cX1_act 53 = .ok (.aload_n 0, 1) := by decide +kernel
theorem dX1_act_54 : decode cX1_act 54 = .ok (.aload_n 0, 1) := by decide +kernel
theorem dX1_act_55 : decode cX1_act 55 = .ok (.getfield 125, 3) := by decide +kernel
theorem dX1_act_58 : decode cX1_act 58 = .ok (.sipush 300, 3) := by decide +kernel
theorem dX1_act_61 : decode cX1_act 61 = .ok (.if_icmp .le 7, 3) := by decide +kernel
theorem dX1_act_64 : decode cX1_act 64 = .ok (.iconst 3, 1) := by decide +kernel
theorem dX1_act_65 : decode cX1_act 65 = .ok (.goto 7, 3) := by decide +kernel
theorem dX1_act_68 : decode cX1_act 68 = .ok (.aload_n 0, 1) := by decide +kernel
theorem dX1_act_69 : decode cX1_act 69 = .ok (.getfield 61, 3) := by decide +kernel
theorem dX1_act_72 : decode cX1_act 72 = .ok (.putfield 61, 3) := by decide +kernel
theorem dX1_act_75 : decode cX1_act 75 = .ok (.goto 80, 3) := by decide +kernel
theorem dX1_act_78 : decode cX1_act 78 = .ok (.iload_n 1, 1) := by decide +kernel
theorem dX1_act_79 : decode cX1_act 79 = .ok (.bipush 14, 2) := by decide +kernel
theorem dX1_act_81 : decode cX1_act 81 = .ok (.if_icmp .ne 21, 3) := by decide +kernel
theorem dX1_act_84 : decode cX1_act 84 = .ok (.aload_n 0, 1) := by decide +kernel
theorem dX1_act_85 : decode cX1_act 85 = .ok (.getfield 15, 3) := by decide +kernel
theorem dX1_act_88 : decode cX1_act 88 = .ok (.aload_n 0, 1) := by decide +kernel
theorem dX1_act_89 : decode cX1_act 89 = .ok (.getfield 119, 3) := by decide +kernel
theorem dX1_act_92 : decode cX1_act 92 = .ok (.bipush 11, 2) := by decide +kernel
theorem dX1_act_94 : decode cX1_act 94 = .ok (.imul, 1) := by decide +kernel
theorem dX1_act_95 : decode cX1_act 95 = .ok (.iload_n 2, 1) := by decide +kernel
theorem dX1_act_96 : decode cX1_act 96 = .ok (.iadd, 1) := by decide +kernel
theorem dX1_act_97 : decode cX1_act 97 = .ok (.iconst 0, 1) := by decide +kernel
theorem dX1_act_98 : decode cX1_act 98 = .ok (.iastore, 1) := by decide +kernel
theorem dX1_act_99 : decode cX1_act 99 = .ok (.goto 56, 3) := by decide +kernel
theorem dX1_act_102 : decode cX1_act 102 = .ok (.iload_n 1, 1) := by decide +kernel
theorem dX1_act_103 : decode cX1_act 103 = .ok (.bipush 15, 2) := by decide +kernel
theorem dX1_act_105 : decode cX1_act 105 = .ok (.if_icmp .ne 11, 3) := by decide +kernel
theorem dX1_act_108 : decode cX1_act 108 = .ok (.aload_n 0, 1) := by decide +kernel
theorem dX1_act_109 : decode cX1_act 109 = .ok (.iload_n 2, 1) := by decide +kernel
theorem dX1_act_110 : decode cX1_act 110 = .ok (.putfield 49, 3) := by decide +kernel
theorem dX1_act_113 : decode cX1_act 113 = .ok (.goto 42, 3) := by decide +kernel
theorem dX1_act_116 : decode cX1_act 116 = .ok (.iload_n 1, 1) := by decide +kernel
theorem dX1_act_117 : decode cX1_act 117 = .ok (.bipush 16, 2) := by decide +kernel
theorem dX1_act_119 : decode cX1_act 119 = .ok (.if_icmp .ne 36, 3) := by decide +kernel
theorem dX1_act_122 : decode cX1_act 122 = .ok (.iload_n 2, 1) := by decide +kernel
theorem dX1_act_123 : decode cX1_act 123 = .ok (.ifCond .lt 32, 3) := by decide +kernel
theorem dX1_act_126 : decode cX1_act 126 = .ok (.iload_n 2, 1) := by decide +kernel
theorem dX1_act_127 : decode cX1_act 127 = .ok (.aload_n 0, 1) := by decide +kernel
theorem dX1_act_128 : decode cX1_act 128 = .ok (.getfield 30, 3) := by decide +kernel
theorem dX1_act_131 : decode cX1_act 131 = .ok (.getfield 146, 3) := by decide +kernel
theorem dX1_act_134 : decode cX1_act 134 = .ok (.if_icmp .ge 21, 3) := by decide +kernel
theorem dX1_act_137 : decode cX1_act 137 = .ok (.aload_n 0, 1) := by decide +kernel
theorem dX1_act_138 : decode cX1_act 138 = .ok (.iconst 2, 1) := by decide +kernel
theorem dX1_act_139 : decode cX1_act 139 = .ok (.putfield 61, 3) := by decide +kernel
theorem dX1_act_142 : decode cX1_act 142 = .ok (.aload_n 0, 1) := by decide +kernel
theorem dX1_act_143 : decode cX1_act 143 = .ok (.aload_n 0, 1) := by decide +kernel
theorem dX1_act_144 : decode cX1_act 144 = .ok (.getfield 30, 3) := by decide +kernel
theorem dX1_act_147 : decode cX1_act 147 = .ok (.getfield 149, 3) := by decide +kernel
theorem dX1_act_150 : decode cX1_act 150 = .ok (.iload_n 2, 1) := by decide +kernel
theorem dX1_act_151 : decode cX1_act 151 = .ok (.laload, 1) := by decide +kernel
theorem dX1_act_152 : decode cX1_act 152 = .ok (.putfield 133, 3) := by decide +kernel
theorem dX1_act_155 : decode cX1_act 155 = .ok (.return_, 1) := by decide +kernel
theorem dX1_use_0 : decode cX1_use 0 = .ok (.iload_n 1, 1) := by decide +kernel
theorem dX1_use_1 : decode cX1_use 1 = .ok (.bipush 20, 2) := by decide +kernel
theorem dX1_use_3 : decode cX1_use 3 = .ok (.if_icmp .ne 21, 3) := by decide +kernel
theorem dX1_use_6 : decode cX1_use 6 = .ok (.aload_n 0, 1) := by decide +kernel
theorem dX1_use_7 : decode cX1_use 7 = .ok (.getfield 15, 3) := by decide +kernel
theorem dX1_use_10 : decode cX1_use 10 = .ok (.aload_n 0, 1) := by decide +kernel
theorem dX1_use_11 : decode cX1_use 11 = .ok (.getfield 119, 3) := by decide +kernel
theorem dX1_use_14 : decode cX1_use 14 = .ok (.bipush 11, 2) := by decide +kernel
theorem dX1_use_16 : decode cX1_use 16 = .ok (.imul, 1) := by decide +kernel
theorem dX1_use_17 : decode cX1_use 17 = .ok (.iload_n 2, 1) := by decide +kernel
theorem dX1_use_18 : decode cX1_use 18 = .ok (.iadd, 1) := by decide +kernel
theorem dX1_use_19 : decode cX1_use 19 = .ok (.iload_n 3, 1) := by decide +kernel
theorem dX1_use_20 : decode cX1_use 20 = .ok (.iastore, 1) := by decide +kernel
theorem dX1_use_21 : decode cX1_use 21 = .ok (.goto 124, 3) := by decide +kernel
theorem dX1_use_24 : decode cX1_use 24 = .ok (.iload_n 1, 1) := by decide +kernel
theorem dX1_use_25 : decode cX1_use 25 = .ok (.bipush 21, 2) := by decide +kernel
theorem dX1_use_27 : decode cX1_use 27 = .ok (.if_icmp .ne 18, 3) := by decide +kernel
theorem dX1_use_30 : decode cX1_use 30 = .ok (.aload_n 0, 1) := by decide +kernel
theorem dX1_use_31 : decode cX1_use 31 = .ok (.getfield 38, 3) := by decide +kernel
theorem dX1_use_34 : decode cX1_use 34 = .ok (.ifCond .eq 11, 3) := by decide +kernel
theorem dX1_use_37 : decode cX1_use 37 = .ok (.aload_n 0, 1) := by decide +kernel
theorem dX1_use_38 : decode cX1_use 38 = .ok (.iconst 4, 1) := by decide +kernel
theorem dX1_use_39 : decode cX1_use 39 = .ok (.putfield 61, 3) := by decide +kernel
theorem dX1_use_42 : decode cX1_use 42 = .ok (.goto 103, 3) := by decide +kernel
theorem dX1_use_45 : decode cX1_use 45 = .ok (.iload_n 1, 1) := by decide +kernel
theorem dX1_use_46 : decode cX1_use 46 = .ok (.bipush 21, 2) := by decide +kernel
theorem dX1_use_48 : decode cX1_use 48 = .ok (.if_icmp .ne 26, 3) := by decide +kernel
theorem dX1_use_51 : decode cX1_use 51 = .ok (.iload_n 2, 1) := by decide +kernel
theorem dX1_use_52 : decode cX1_use 52 = .ok (.iconst 4, 1) := by decide +kernel
theorem dX1_use_53 : decode cX1_use 53 = .ok (.ishr, 1) := by decide +kernel
theorem dX1_use_54 : decode cX1_use 54 = .ok (.aload_n 0, 1) := by decide +kernel
theorem dX1_use_55 : decode cX1_use 55 = .ok (.getfield 21, 3) := by decide +kernel
theorem dX1_use_58 : decode cX1_use 58 = .ok (.arraylength, 1) := by decide +kernel
theorem dX1_use_59 : decode cX1_use 59 = .ok (.if_icmp .ge 15, 3) := by decide +kernel
theorem dX1_use_62 : decode cX1_use 62 = .ok (.aload_n 0, 1) := by decide +kernel
theorem dX1_use_63 : decode cX1_use 63 = .ok (.getfield 21, 3) := by decide +kernel
theorem dX1_use_66 : decode cX1_use 66 = .ok (.iload_n 2, 1) := by decide +kernel
theorem dX1_use_67 : decode cX1_use 67 = .ok (.iconst 4, 1) := by decide +kernel
theorem dX1_use_68 : decode cX1_use 68 = .ok (.ishr, 1) := by decide +kernel
theorem dX1_use_69 : decode cX1_use 69 = .ok (.iload_n 3, 1) := by decide +kernel
theorem dX1_use_70 : decode cX1_use 70 = .ok (.iastore, 1) := by decide +kernel
theorem dX1_use_71 : decode cX1_use 71 = .ok (.goto 74, 3) := by decide +kernel
theorem dX1_use_74 : decode cX1_use 74 = .ok (.iload_n 1, 1) := by decide +kernel
theorem dX1_use_75 : decode cX1_use 75 = .ok (.bipush 23, 2) := by decide +kernel
theorem dX1_use_77 : decode cX1_use 77 = .ok (.if_icmp .ne 15, 3) := by decide +kernel
theorem dX1_use_80 : decode cX1_use 80 = .ok (.iload_n 3, 1) := by decide +kernel
theorem dX1_use_81 : decode cX1_use 81 = .ok (.ifCond .ne 11, 3) := by decide +kernel
theorem dX1_use_84 : decode cX1_use 84 = .ok (.aload_n 0, 1) := by decide +kernel
theorem dX1_use_85 : decode cX1_use 85 = .ok (.iload_n 2, 1) := by decide +kernel
theorem dX1_use_86 : decode cX1_use 86 = .ok (.putfield 49, 3) := by decide +kernel
theorem dX1_use_89 : decode cX1_use 89 = .ok (.goto 56, 3) := by decide +kernel
theorem dX1_use_92 : decode cX1_use 92 = .ok (.iload_n 1, 1) := by decide +kernel
theorem dX1_use_93 : decode cX1_use 93 = .ok (.bipush 24, 2) := by decide +kernel
theorem dX1_use_95 : decode cX1_use 95 = .ok (.if_icmp .ne 7, 3) := by decide +kernel
theorem dX1_use_98 : decode cX1_use 98 = .ok (.iload_n 3, 1) := by decide +kernel
theorem dX1_use_99 : decode cX1_use 99 = .ok (.ifCond .eq 13, 3) := by decide +kernel
theorem dX1_use_102 : decode cX1_use 102 = .ok (.iload_n 1, 1) := by decide +kernel
theorem dX1_use_103 : decode cX1_use 103 = .ok (.bipush 25, 2) := by decide +kernel
theorem dX1_use_105 : decode cX1_use 105 = .ok (.if_icmp .ne 40, 3) := by decide +kernel
theorem dX1_use_108 : decode cX1_use 108 = .ok (.iload_n 3, 1) := by decide +kernel
theorem dX1_use_109 : decode cX1_use 109 = .ok (.ifCond .eq 36, 3) := by decide +kernel
theorem dX1_use_112 : decode cX1_use 112 = .ok (.aload_n 0, 1) := by decide +kernel
theorem dX1_use_113 : decode cX1_use 113 = .ok (.getfield 11, 3) := by decide +kernel
theorem dX1_use_116 : decode cX1_use 116 = .ok (.aload_n 0, 1) := by decide +kernel
theorem dX1_use_117 : decode cX1_use 117 = .ok (.getfield 122, 3) := by decide +kernel
theorem dX1_use_120 : decode cX1_use 120 = .ok (.iload_n 3, 1) := by decide +kernel
theorem dX1_use_121 : decode cX1_use 121 = .ok (.ifCond .ne 7, 3) := by decide +kernel
theorem dX1_use_124 : decode cX1_use 124 = .ok (.iconst 0, 1) := by decide +kernel
theorem dX1_use_125 : decode cX1_use 125 = .ok (.goto 4, 3) := by decide +kernel
theorem dX1_use_128 : decode cX1_use 128 = .ok (.iconst 1, 1) := by decide +kernel
theorem dX1_use_129 : decode cX1_use 129 = .ok (.iastore, 1) := by decide +kernel
theorem dX1_use_130 : decode cX1_use 130 = .ok (.aload_n 0, 1) := by decide +kernel
theorem dX1_use_131 : decode cX1_use 131 = .ok (.dup, 1) := by decide +kernel
theorem dX1_use_132 : decode cX1_use 132 = .ok (.getfield 122, 3) := by decide +kernel
theorem dX1_use_135 : decode cX1_use 135 = .ok (.iconst 1, 1) := by decide +kernel
theorem dX1_use_136 : decode cX1_use 136 = .ok (.iadd, 1) := by decide +kernel
theorem dX1_use_137 : decode cX1_use 137 = .ok (.putfield 122, 3) := by decide +kernel
theorem dX1_use_140 : decode cX1_use 140 = .ok (.aload_n 0, 1) := by decide +kernel
theorem dX1_use_141 : decode cX1_use 141 = .ok (.iload_n 2, 1) := by decide +kernel
theorem dX1_use_142 : decode cX1_use 142 = .ok (.putfield 49, 3) := by decide +kernel
theorem dX1_use_145 : decode cX1_use 145 = .ok (.return_, 1) := by decide +kernel
theorem dX1_setCell_0 : decode cX1_setCell 0 = .ok (.iload_n 1, 1) := by decide +kernel
theorem dX1_setCell_1 : decode cX1_setCell 1 = .ok (.iconst 4, 1) := by decide +kernel
theorem dX1_setCell_2 : decode cX1_setCell 2 = .ok (.ishr, 1) := by decide +kernel
theorem dX1_setCell_3 : decode cX1_setCell 3 = .ok (.iload_n 2, 1) := by decide +kernel
theorem dX1_setCell_4 : decode cX1_setCell 4 = .ok (.iadd, 1) := by decide +kernel
theorem dX1_setCell_5 : decode cX1_setCell 5 = .ok (.istore 4, 2) := by decide +kernel
theorem dX1_setCell_7 : decode cX1_setCell 7 = .ok (.aload_n 0, 1) := by decide +kernel
theorem dX1_setCell_8 : decode cX1_setCell 8 = .ok (.getfield 38, 3) := by decide +kernel
theorem dX1_setCell_11 : decode cX1_setCell 11 = .ok (.ifCond .eq 11, 3) := by decide +kernel
theorem dX1_setCell_14 : decode cX1_setCell 14 = .ok (.aload_n 0, 1) := by decide +kernel
theorem dX1_setCell_15 : decode cX1_setCell 15 = .ok (.iconst 4, 1) := by decide +kernel
theorem dX1_setCell_16 : decode cX1_setCell 16 = .ok (.putfield 61, 3) := by decide +kernel
theorem dX1_setCell_19 : decode cX1_setCell 19 = .ok (.goto 33, 3) := by decide +kernel
theorem dX1_setCell_22 : decode cX1_setCell 22 = .ok (.iload_n 2, 1) := by decide +kernel
theorem dX1_setCell_23 : decode cX1_setCell 23 = .ok (.ifCond .lt 29, 3) := by decide +kernel
theorem dX1_setCell_26 : decode cX1_setCell 26 = .ok (.iload_n 2, 1) := by decide +kernel
theorem dX1_setCell_27 : decode cX1_setCell 27 = .ok (.iload_n 1, 1) := by decide +kernel
theorem dX1_setCell_28 : decode cX1_setCell 28 = .ok (.bipush 15, 2) := by decide +kernel
theorem dX1_setCell_30 : decode cX1_setCell 30 = .ok (.iand, 1) := by decide +kernel
theorem dX1_setCell_31 : decode cX1_setCell 31 = .ok (.if_icmp .ge 21, 3) := by decide +kernel
theorem dX1_setCell_34 : decode cX1_setCell 34 = .ok (.iload 4, 2) := by decide +kernel
theorem dX1_setCell_36 : decode cX1_setCell 36 = .ok (.aload_n 0, 1) := by decide +kernel
theorem dX1_setCell_37 : decode cX1_setCell 37 = .ok (.getfield 21, 3) := by decide +kernel
theorem dX1_setCell_40 : decode cX1_setCell 40 = .ok (.arraylength, 1) := by decide +kernel
theorem dX1_setCell_41 : decode cX1_setCell 41 = .ok (.if_icmp .ge 11, 3) := by decide +kernel
theorem dX1_setCell_44 : decode cX1_setCell 44 = .ok (.aload_n 0, 1) := by decide +kernel
theorem dX1_setCell_45 : decode cX1_setCell 45 = .ok (.getfield 21, 3) := by decide +kernel
theorem dX1_setCell_48 : decode cX1_setCell 48 = .ok (.iload 4, 2) := by decide +kernel
theorem dX1_setCell_50 : decode cX1_setCell 50 = .ok (.iload_n 3, 1) := by decide +kernel
theorem dX1_setCell_51 : decode cX1_setCell 51 = .ok (.iastore, 1) := by decide +kernel
theorem dX1_setCell_52 : decode cX1_setCell 52 = .ok (.return_, 1) := by decide +kernel
theorem dX1_enter_0 : decode cX1_enter 0 = .ok (.aload_n 0, 1) := by decide +kernel
theorem dX1_enter_1 : decode cX1_enter 1 = .ok (.getfield 119, 3) := by decide +kernel
theorem dX1_enter_4 : decode cX1_enter 4 = .ok (.bipush 20, 2) := by decide +kernel
theorem dX1_enter_6 : decode cX1_enter 6 = .ok (.if_icmp .ge 18, 3) := by decide +kernel
theorem dX1_enter_9 : decode cX1_enter 9 = .ok (.iload_n 1, 1) := by decide +kernel
theorem dX1_enter_10 : decode cX1_enter 10 = .ok (.ifCond .lt 14, 3) := by decide +kernel
theorem dX1_enter_13 : decode cX1_enter 13 = .ok (.iload_n 1, 1) := by decide +kernel
theorem dX1_enter_14 : decode cX1_enter 14 = .ok (.aload_n 0, 1) := by decide +kernel
theorem dX1_enter_15 : decode cX1_enter 15 = .ok (.getfield 30, 3) := by decide +kernel
theorem dX1_enter_18 : decode cX1_enter 18 = .ok (.getfield 153, 3) := by decide +kernel
theorem dX1_enter_21 : decode cX1_enter 21 = .ok (.if_icmp .lt 9, 3) := by decide +kernel
theorem dX1_enter_24 : decode cX1_enter 24 = .ok (.aload_n 0, 1) := by decide +kernel
theorem dX1_enter_25 : decode cX1_enter 25 = .ok (.iconst 3, 1) := by decide +kernel
theorem dX1_enter_26 : decode cX1_enter 26 = .ok (.putfield 61, 3) := by decide +kernel
theorem dX1_enter_29 : decode cX1_enter 29 = .ok (.return_, 1) := by decide +kernel
theorem dX1_enter_30 : decode cX1_enter 30 = .ok (.aload_n 0, 1) := by decide +kernel
theorem dX1_enter_31 : decode cX1_enter 31 = .ok (.getfield 30, 3) := by decide +kernel
theorem dX1_enter_34 : decode cX1_enter 34 = .ok (.getfield 156, 3) := by decide +kernel
theorem dX1_enter_37 : decode cX1_enter 37 = .ok (.iload_n 1, 1) := by decide +kernel
theorem dX1_enter_38 : decode cX1_enter 38 = .ok (.aaload, 1) := by decide +kernel
theorem dX1_enter_39 : decode cX1_enter 39 = .ok (.astore_n 2, 1) := by decide +kernel
theorem dX1_enter_40 : decode cX1_enter 40 = .ok (.aload_n 0, 1) := by decide +kernel
theorem dX1_enter_41 : decode cX1_enter 41 = .ok (.dup, 1) := by decide +kernel
theorem dX1_enter_42 : decode cX1_enter 42 = .ok (.getfield 119, 3) := by decide +kernel
theorem dX1_enter_45 : decode cX1_enter 45 = .ok (.iconst 1, 1) := by decide +kernel
theorem dX1_enter_46 : decode cX1_enter 46 = .ok (.iadd, 1) := by decide +kernel
theorem dX1_enter_47 : decode cX1_enter 47 = .ok (.putfield 119, 3) := by decide +kernel
theorem dX1_enter_50 : decode cX1_enter 50 = .ok (.aload_n 0, 1) := by decide +kernel
theorem dX1_enter_51 : decode cX1_enter 51 = .ok (.getfield 18, 3) := by decide +kernel
theorem dX1_enter_54 : decode cX1_enter 54 = .ok (.aload_n 0, 1) := by decide +kernel
theorem dX1_enter_55 : decode cX1_enter 55 = .ok (.getfield 119, 3) := by decide +kernel
theorem dX1_enter_58 : decode cX1_enter 58 = .ok (.aload_n 0, 1) := by decide +kernel
theorem dX1_enter_59 : decode cX1_enter 59 = .ok (.getfield 49, 3) := by decide +kernel
theorem dX1_enter_62 : decode cX1_enter 62 = .ok (.iastore, 1) := by decide +kernel
theorem dX1_enter_63 : decode cX1_enter 63 = .ok (.aload_n 0, 1) := by decide +kernel
theorem dX1_enter_64 : decode cX1_enter 64 = .ok (.aload_n 2, 1) := by decide +kernel
theorem dX1_enter_65 : decode cX1_enter 65 = .ok (.getfield 52, 3) := by decide +kernel
theorem dX1_enter_68 : decode cX1_enter 68 = .ok (.putfield 49, 3) := by decide +kernel
theorem dX1_enter_71 : decode cX1_enter 71 = .ok (.aload_n 0, 1) := by decide +kernel
theorem dX1_enter_72 : decode cX1_enter 72 = .ok (.aload_n 0, 1) := by decide +kernel
theorem dX1_enter_73 : decode cX1_enter 73 = .ok (.getfield 122, 3) := by decide +kernel
theorem dX1_enter_76 : decode cX1_enter 76 = .ok (.aload_n 2, 1) := by decide +kernel
theorem dX1_enter_77 : decode cX1_enter 77 = .ok (.getfield 160, 3) := by decide +kernel
theorem dX1_enter_80 : decode cX1_enter 80 = .ok (.if_icmp .le 15, 3) := by decide +kernel
theorem dX1_enter_83 : decode cX1_enter 83 = .ok (.aload_n 0, 1) := by decide +kernel
theorem dX1_enter_84 : decode cX1_enter 84 = .ok (.getfield 122, 3) := by decide +kernel
theorem dX1_enter_87 : decode cX1_enter 87 = .ok (.aload_n 2, 1) := by decide +kernel
theorem dX1_enter_88 : decode cX1_enter 88 = .ok (.getfield 160, 3) := by decide +kernel
theorem dX1_enter_91 : decode cX1_enter 91 = .ok (.isub, 1) := by decide +kernel
theorem dX1_enter_92 : decode cX1_enter 92 = .ok (.goto 4, 3) := by decide +kernel
theorem dX1_enter_95 : decode cX1_enter 95 = .ok (.iconst 0, 1) := by decide +kernel
theorem dX1_enter_96 : decode cX1_enter 96 = .ok (.putfield 122, 3) := by decide +kernel
theorem dX1_enter_99 : decode cX1_enter 99 = .ok (.iconst 0, 1) := by decide +kernel
theorem dX1_enter_100 : decode cX1_enter 100 = .ok (.istore_n 3, 1) := by decide +kernel
theorem dX1_enter_101 : decode cX1_enter 101 = .ok (.iload_n 3, 1) := by decide +kernel
theorem dX1_enter_102 : decode cX1_enter 102 = .ok (.aload_n 2, 1) := by decide +kernel
theorem dX1_enter_103 : decode cX1_enter 103 = .ok (.getfield 160, 3) := by decide +kernel
theorem dX1_enter_106 : decode cX1_enter 106 = .ok (.if_icmp .ge 34, 3) := by decide +kernel
theorem dX1_enter_109 : decode cX1_enter 109 = .ok (.aload_n 0, 1) := by decide +kernel
theorem dX1_enter_110 : decode cX1_enter 110 = .ok (.getfield 15, 3) := by decide +kernel
theorem dX1_enter_113 : decode cX1_enter 113 = .ok (.aload_n 0, 1) := by decide +kernel
theorem dX1_enter_114 : decode cX1_enter 114 = .ok (.getfield 119, 3) := by decide +kernel
theorem dX1_enter_117 : decode cX1_enter 117 = .ok (.bipush 11, 2) := by decide +kernel
theorem dX1_enter_119 : decode cX1_enter 119 = .ok (.imul, 1) := by decide +kernel
theorem dX1_enter_120 : decode cX1_enter 120 = .ok (.iload_n 3, 1) := by decide +kernel
theorem dX1_enter_121 : decode cX1_enter 121 = .ok (.iadd, 1) := by decide +kernel
theorem dX1_enter_122 : decode cX1_enter 122 = .ok (.aload_n 0, 1) := by decide +kernel
theorem dX1_enter_123 : decode cX1_enter 123 = .ok (.getfield 11, 3) := by decide +kernel
theorem dX1_enter_126 : decode cX1_enter 126 = .ok (.aload_n 0, 1) := by decide +kernel
theorem dX1_enter_127 : decode cX1_enter 127 = .ok (.getfield 122, 3) := by decide +kernel
theorem dX1_enter_130 : decode cX1_enter 130 = .ok (.iload_n 3, 1) := by decide +kernel
theorem dX1_enter_131 : decode cX1_enter 131 = .ok (.iadd, 1) := by decide +kernel
theorem dX1_enter_132 : decode cX1_enter 132 = .ok (.iaload, 1) := by decide +kernel
theorem dX1_enter_133 : decode cX1_enter 133 = .ok (.iastore, 1) := by decide +kernel
theorem dX1_enter_134 : decode cX1_enter 134 = .ok (.iinc 3 1, 3) := by decide +kernel
theorem dX1_enter_137 : decode cX1_enter 137 = .ok (.goto (-36), 3) := by decide +kernel
theorem dX1_enter_140 : decode cX1_enter 140 = .ok (.return_, 1) := by decide +kernel
theorem dX1_leave_0 : decode cX1_leave 0 = .ok (.aload_n 0, 1) := by decide +kernel
theorem dX1_leave_1 : decode cX1_leave 1 = .ok (.getfield 119, 3) := by decide +kernel
theorem dX1_leave_4 : decode cX1_leave 4 = .ok (.aload_n 0, 1) := by decide +kernel
theorem dX1_leave_5 : decode cX1_leave 5 = .ok (.getfield 46, 3) := by decide +kernel
theorem dX1_leave_8 : decode cX1_leave 8 = .ok (.if_icmp .ne 14, 3) := by decide +kernel
theorem dX1_leave_11 : decode cX1_leave 11 = .ok (.aload_n 0, 1) := by decide +kernel
theorem dX1_leave_12 : decode cX1_leave 12 = .ok (.iload_n 1, 1) := by decide +kernel
theorem dX1_leave_13 : decode cX1_leave 13 = .ok (.putfield 128, 3) := by decide +kernel
theorem dX1_leave_16 : decode cX1_leave 16 = .ok (.aload_n 0, 1) := by decide +kernel
theorem dX1_leave_17 : decode cX1_leave 17 = .ok (.iconst 1, 1) := by decide +kernel
theorem dX1_leave_18 : decode cX1_leave 18 = .ok (.putfield 61, 3) := by decide +kernel
theorem dX1_leave_21 : decode cX1_leave 21 = .ok (.return_, 1) := by decide +kernel
theorem dX1_leave_22 : decode cX1_leave 22 = .ok (.aload_n 0, 1) := by decide +kernel
theorem dX1_leave_23 : decode cX1_leave 23 = .ok (.aload_n 0, 1) := by decide +kernel
theorem dX1_leave_24 : decode cX1_leave 24 = .ok (.getfield 18, 3) := by decide +kernel
theorem dX1_leave_27 : decode cX1_leave 27 = .ok (.aload_n 0, 1) := by decide +kernel
theorem dX1_leave_28 : decode cX1_leave 28 = .ok (.getfield 119, 3) := by decide +kernel
theorem dX1_leave_31 : decode cX1_leave 31 = .ok (.iaload, 1) := by decide +kernel
theorem dX1_leave_32 : decode cX1_leave 32 = .ok (.putfield 49, 3) := by decide +kernel
theorem dX1_leave_35 : decode cX1_leave 35 = .ok (.aload_n 0, 1) := by decide +kernel
theorem dX1_leave_36 : decode cX1_leave 36 = .ok (.dup, 1) := by decide +kernel
theorem dX1_leave_37 : decode cX1_leave 37 = .ok (.getfield 119, 3) := by decide +kernel
theorem dX1_leave_40 : decode cX1_leave 40 = .ok (.iconst 1, 1) := by decide +kernel
theorem dX1_leave_41 : decode cX1_leave 41 = .ok (.isub, 1) := by decide +kernel
theorem dX1_leave_42 : decode cX1_leave 42 = .ok (.putfield 119, 3) := by decide +kernel
theorem dX1_leave_45 : decode cX1_leave 45 = .ok (.aload_n 0, 1) := by decide +kernel
theorem dX1_leave_46 : decode cX1_leave 46 = .ok (.getfield 122, 3) := by decide +kernel
theorem dX1_leave_49 : decode cX1_leave 49 = .ok (.sipush 700, 3) := by decide +kernel
theorem dX1_leave_52 : decode cX1_leave 52 = .ok (.if_icmp .ge 23, 3) := by decide +kernel
theorem dX1_leave_55 : decode cX1_leave 55 = .ok (.aload_n 0, 1) := by decide +kernel
theorem dX1_leave_56 : decode cX1_leave 56 = .ok (.getfield 11, 3) := by decide +kernel
theorem dX1_leave_59 : decode cX1_leave 59 = .ok (.aload_n 0, 1) := by decide +kernel
theorem dX1_leave_60 : decode cX1_leave 60 = .ok (.getfield 122, 3) := by decide +kernel
theorem dX1_leave_63 : decode cX1_leave 63 = .ok (.iload_n 1, 1) := by decide +kernel
theorem dX1_leave_64 : decode cX1_leave 64 = .ok (.iastore, 1) := by decide +kernel
theorem dX1_leave_65 : decode cX1_leave 65 = .ok (.aload_n 0, 1) := by decide +kernel
theorem dX1_leave_66 : decode cX1_leave 66 = .ok (.dup, 1) := by decide +kernel
theorem dX1_leave_67 : decode cX1_leave 67 = .ok (.getfield 122, 3) := by decide +kernel
theorem dX1_leave_70 : decode cX1_leave 70 = .ok (.iconst 1, 1) := by decide +kernel
theorem dX1_leave_71 : decode cX1_leave 71 = .ok (.iadd, 1) := by decide +kernel
theorem dX1_leave_72 : decode cX1_leave 72 = .ok (.putfield 122, 3) := by decide +kernel
theorem dX1_leave_75 : decode cX1_leave 75 = .ok (.return_, 1) := by decide +kernel
theorem dX2_atClass_0 : decode cX2_atClass 0 = .ok (.aload_n 0, 1) := by decide +kernel
theorem dX2_atClass_1 : decode cX2_atClass 1 = .ok (.getfield 12, 3) := by decide +kernel
theorem dX2_atClass_4 : decode cX2_atClass 4 = .ok (.invokevirtual 85, 3) := by decide +kernel
theorem dX2_atClass_7 : decode cX2_atClass 7 = .ok (.bipush 10, 2) := by decide +kernel
theorem dX2_atClass_9 : decode cX2_atClass 9 = .ok (.if_icmp .ne 7, 3) := by decide +kernel
theorem dX2_atClass_12 : decode cX2_atClass 12 = .ok (.iconst 1, 1) := by decide +kernel
theorem dX2_atClass_13 : decode cX2_atClass 13 = .ok (.goto 4, 3) := by decide +kernel
theorem dX2_atClass_16 : decode cX2_atClass 16 = .ok (.iconst 0, 1) := by decide +kernel
theorem dX2_atClass_17 : decode cX2_atClass 17 = .ok (.ireturn, 1) := by decide +kernel
theorem dX2_finish_0 : decode cX2_finish 0 = .ok (.aload_n 0, 1) := by decide +kernel
theorem dX2_finish_1 : decode cX2_finish 1 = .ok (.getfield 12, 3) := by decide +kernel
theorem dX2_finish_4 : decode cX2_finish 4 = .ok (.iconst 1, 1) := by decide +kernel
theorem dX2_finish_5 : decode cX2_finish 5 = .ok (.invokevirtual 89, 3) := by decide +kernel
theorem dX2_finish_8 : decode cX2_finish 8 = .ok (.return_, 1) := by decide +kernel
theorem dX2_faultKind_0 : decode cX2_faultKind 0 = .ok (.aload_n 0, 1) := by decide +kernel
theorem dX2_faultKind_1 : decode cX2_faultKind 1 = .ok (.getfield 12, 3) := by decide +kernel
theorem dX2_faultKind_4 : decode cX2_faultKind 4 = .ok (.getfield 93, 3) := by decide +kernel
theorem dX2_faultKind_7 : decode cX2_faultKind 7 = .ok (.ireturn, 1) := by decide +kernel
theorem dX2_faultPlace_0 : decode cX2_faultPlace 0 = .ok (.aload_n 0, 1) := by decide +kernel
theorem dX2_faultPlace_1 : decode cX2_faultPlace 1 = .ok (.getfield 12, 3) := by decide +kernel
theorem dX2_faultPlace_4 : decode cX2_faultPlace 4 = .ok (.getfield 96, 3) := by decide +kernel
theorem dX2_faultPlace_7 : decode cX2_faultPlace 7 = .ok (.ireturn, 1) := by decide +kernel
theorem dX2_readClassHead_0 : decode cX2_readClassHead 0 = .ok (.aload_n 0, 1) := by decide +kernel
theorem dX2_readClassHead_1 : decode cX2_readClassHead 1 = .ok (.getfield 12, 3) := by decide +kernel
theorem dX2_readClassHead_4 : decode cX2_readClassHead 4 = .ok (.bipush 10, 2) := by decide +kernel
theorem dX2_readClassHead_6 : decode cX2_readClassHead 6 = .ok (.invokevirtual 89, 3) := by decide +kernel
theorem dX2_readClassHead_9 : decode cX2_readClassHead 9 = .ok (.aload_n 0, 1) := by decide +kernel
theorem dX2_readClassHead_10 : decode cX2_readClassHead 10 = .ok (.getfield 12, 3) := by decide +kernel
theorem dX2_readClassHead_13 : decode cX2_readClassHead 13 = .ok (.invokevirtual 129, 3) := by decide +kernel
theorem dX2_readClassHead_16 : decode cX2_readClassHead 16 = .ok (.istore_n 1, 1) := by decide +kernel
theorem dX2_readClassHead_17 : decode cX2_readClassHead 17 = .ok (.aload_n 0, 1) := by decide +kernel
theorem dX2_readClassHead_18 : decode cX2_readClassHead 18 = .ok (.getfield 12, 3) := by decide +kernel
theorem dX2_readClassHead_21 : decode cX2_readClassHead 21 = .ok (.invokevirtual 132, 3) := by decide +kernel
theorem dX2_readClassHead_24 : decode cX2_readClassHead 24 = .ok (.lstore_n 2, 1) := by decide +kernel
theorem dX2_readClassHead_25 : decode cX2_readClassHead 25 = .ok (.aload_n 0, 1) := by decide +kernel
theorem dX2_readClassHead_26 : decode cX2_readClassHead 26 = .ok (.getfield 12, 3) := by decide +kernel
theorem dX2_readClassHead_29 : decode cX2_readClassHead 29 = .ok (.invokevirtual 85, 3) := by decide +kernel
theorem dX2_readClassHead_32 : decode cX2_readClassHead 32 = .ok (.iconst 3, 1) := by decide +kernel
theorem dX2_readClassHead_33 : decode cX2_readClassHead 33 = .ok (.if_icmp .eq 15, 3) := by decide +kernel
theorem dX2_readClassHead_36 : decode cX2_readClassHead 36 = .ok (.aload_n 0, 1) := by decide +kernel
theorem dX2_readClassHead_37 : decode cX2_readClassHead 37 = .ok (.getfield 12, 3) := by decide +kernel
theorem dX2_readClassHead_40 : decode cX2_readClassHead 40 = .ok (.iconst 1, 1) := by decide +kernel
theorem dX2_readClassHead_41 : decode cX2_readClassHead 41 = .ok (.iload_n 1, 1) := by decide +kernel
theorem dX2_readClassHead_42 : decode cX2_readClassHead 42 = .ok (.invokevirtual 136, 3) := by decide +kernel
theorem dX2_readClassHead_45 : decode cX2_readClassHead 45 = .ok (.goto 117, 3) := by decide +kernel
theorem dX2_readClassHead_48 : decode cX2_readClassHead 48 = .ok (.aload_n 0, 1) := by decide +kernel
theorem dX2_readClassHead_49 : decode cX2_readClassHead 49 = .ok (.getfield 51, 3) := by decide +kernel
theorem dX2_readClassHead_52 : decode cX2_readClassHead 52 = .ok (.lload_n 2, 1) := by decide +kernel
theorem dX2_readClassHead_53 : decode cX2_readClassHead 53 = .ok (.invokevirtual 140, 3) := by decide +kernel
theorem dX2_readClassHead_56 : decode cX2_readClassHead 56 = .ok (.iconst (-1), 1) := by decide +kernel
theorem dX2_readClassHead_57 : decode cX2_readClassHead 57 = .ok (.if_icmp .eq 15, 3) := by decide +kernel
theorem dX2_readClassHead_60 : decode cX2_readClassHead 60 = .ok (.aload_n 0, 1) := by decide +kernel
theorem dX2_readClassHead_61 : decode cX2_readClassHead 61 = .ok (.getfield 12, 3) := by decide +kernel
theorem dX2_readClassHead_64 : decode cX2_readClassHead 64 = .ok (.iconst 2, 1) := by decide +kernel
theorem dX2_readClassHead_65 : decode cX2_readClassHead 65 = .ok (.iload_n 1, 1) := by decide +kernel
theorem dX2_readClassHead_66 : decode cX2_readClassHead 66 = .ok (.invokevirtual 136, 3) := by decide +kernel
theorem dX2_readClassHead_69 : decode cX2_readClassHead 69 = .ok (.goto 93, 3) := by decide +kernel
theorem dX2_readClassHead_72 : decode cX2_readClassHead 72 = .ok (.aload_n 0, 1) := by decide +kernel
theorem dX2_readClassHead_73 : decode cX2_readClassHead 73 = .ok (.getfield 51, 3) := by decide +kernel
theorem dX2_readClassHead_76 : decode cX2_readClassHead 76 = .ok (.getfield 126, 3) := by decide +kernel
theorem dX2_readClassHead_79 : decode cX2_readClassHead 79 = .ok (.bipush 8, 2) := by decide +kernel
theorem dX2_readClassHead_81 : decode cX2_readClassHead 81 = .ok (.if_icmp .lt 15, 3) := by decide +kernel
theorem dX2_readClassHead_84 : decode cX2_readClassHead 84 = .ok (.aload_n 0, 1) := by decide +kernel
theorem dX2_readClassHead_85 : decode cX2_readClassHead 85 = .ok (.getfield 12, 3) := by decide +kernel
theorem dX2_readClassHead_88 : decode cX2_readClassHead 88 = .ok (.iconst 4, 1) := by decide +kernel
theorem dX2_readClassHead_89 : decode cX2_readClassHead 89 = .ok (.iload_n 1, 1) := by decide +kernel
theorem dX2_readClassHead_90 : decode cX2_readClassHead 90 = .ok (.invokevirtual 136, 3) := by decide +kernel
theorem dX2_readClassHead_93 : decode cX2_readClassHead 93 = .ok (.goto 69, 3) := by decide +kernel
theorem dX2_readClassHead_96 : decode cX2_readClassHead 96 = .ok (.aload_n 0, 1) := by decide +kernel
theorem dX2_readClassHead_97 : decode cX2_readClassHead 97 = .ok (.aload_n 0, 1) := by decide +kernel
theorem dX2_readClassHead_98 : decode cX2_readClassHead 98 = .ok (.getfield 51, 3) := by decide +kernel
theorem dX2_readClassHead_101 : decode cX2_readClassHead 101 = .ok (.getfield 60, 3) := by decide +kernel
theorem dX2_readClassHead_104 : decode cX2_readClassHead 104 = .ok (.aload_n 0, 1) := by decide +kernel
theorem dX2_readClassHead_105 : decode cX2_readClassHead 105 = .ok (.getfield 51, 3) := by decide +kernel
theorem dX2_readClassHead_108 : decode cX2_readClassHead 108 = .ok (.getfield 126, 3) := by decide +kernel
theorem dX2_readClassHead_111 : decode cX2_readClassHead 111 = .ok (.aaload, 1) := by decide +kernel
theorem dX2_readClassHead_112 : decode cX2_readClassHead 112 = .ok (.putfield 64, 3) := by decide +kernel
theorem dX2_readClassHead_115 : decode cX2_readClassHead 115 = .ok (.aload_n 0, 1) := by decide +kernel
theorem dX2_readClassHead_116 : decode cX2_readClassHead 116 = .ok (.getfield 64, 3) := by decide +kernel
theorem dX2_readClassHead_119 : decode cX2_readClassHead 119 = .ok (.lload_n 2, 1) := by decide +kernel
theorem dX2_readClassHead_120 : decode cX2_readClassHead 120 = .ok (.invokevirtual 144, 3) := by decide +kernel
theorem dX2_readClassHead_123 : decode cX2_readClassHead 123 = .ok (.aload_n 0, 1) := by decide +kernel
theorem dX2_readClassHead_124 : decode cX2_readClassHead 124 = .ok (.getfield 64, 3) := by decide +kernel
theorem dX2_readClassHead_127 : decode cX2_readClassHead 127 = .ok (.aload_n 0, 1) := by decide +kernel
theorem dX2_readClassHead_128 : decode cX2_readClassHead 128 = .ok (.getfield 51, 3) := by decide +kernel
theorem dX2_readClassHead_131 : decode cX2_readClassHead 131 = .ok (.getfield 148, 3) := by decide +kernel
theorem dX2_readClassHead_134 : decode cX2_readClassHead 134 = .ok (.putfield 151, 3) := by decide +kernel
theorem dX2_readClassHead_137 : decode cX2_readClassHead 137 = .ok (.aload_n 0, 1) := by decide +kernel
theorem dX2_readClassHead_138 : decode cX2_readClassHead 138 = .ok (.getfield 21, 3) := by decide +kernel
theorem dX2_readClassHead_141 : decode cX2_readClassHead 141 = .ok (.aload_n 0, 1) := by decide +kernel
theorem dX2_readClassHead_142 : decode cX2_readClassHead 142 = .ok (.getfield 64, 3) := by decide +kernel
theorem dX2_readClassHead_145 : decode cX2_readClassHead 145 = .ok (.putfield 77, 3) := by decide +kernel
theorem dX2_readClassHead_148 : decode cX2_readClassHead 148 = .ok (.aload_n 0, 1) := by decide +kernel
theorem dX2_readClassHead_149 : decode cX2_readClassHead 149 = .ok (.getfield 21, 3) := by decide +kernel
theorem dX2_readClassHead_152 : decode cX2_readClassHead 152 = .ok (.aload_n 0, 1) := by decide +kernel
theorem dX2_readClassHead_153 : decode cX2_readClassHead 153 = .ok (.getfield 51, 3) := by decide +kernel
theorem dX2_readClassHead_156 : decode cX2_readClassHead 156 = .ok (.getfield 126, 3) := by decide +kernel
theorem dX2_readClassHead_159 : decode cX2_readClassHead 159 = .ok (.putfield 154, 3) := by decide +kernel
theorem dX2_readClassHead_162 : decode cX2_readClassHead 162 = .ok (.aload_n 0, 1) := by decide +kernel
theorem dX2_readClassHead_163 : decode cX2_readClassHead 163 = .ok (.getfield 12, 3) := by decide +kernel
theorem dX2_readClassHead_166 : decode cX2_readClassHead 166 = .ok (.invokevirtual 157, 3) := by decide +kernel
theorem dX2_readClassHead_169 : decode cX2_readClassHead 169 = .ok (.aload_n 0, 1) := by decide +kernel
theorem dX2_readClassHead_170 : decode cX2_readClassHead 170 = .ok (.getfield 12, 3) := by decide +kernel
theorem dX2_readClassHead_173 : decode cX2_readClassHead 173 = .ok (.invokevirtual 85, 3) := by decide +kernel
theorem dX2_readClassHead_176 : decode cX2_readClassHead 176 = .ok (.bipush 11, 2) := by decide +kernel
theorem dX2_readClassHead_178 : decode cX2_readClassHead 178 = .ok (.if_icmp .ne 7, 3) := by decide +kernel
theorem dX2_readClassHead_181 : decode cX2_readClassHead 181 = .ok (.aload_n 0, 1) := by decide +kernel
theorem dX2_readClassHead_182 : decode cX2_readClassHead 182 = .ok (.invokevirtual 160, 3) := by decide +kernel
theorem dX2_readClassHead_185 : decode cX2_readClassHead 185 = .ok (.aload_n 0, 1) := by decide +kernel
theorem dX2_readClassHead_186 : decode cX2_readClassHead 186 = .ok (.getfield 12, 3) := by decide +kernel
theorem dX2_readClassHead_189 : decode cX2_readClassHead 189 = .ok (.bipush 123, 2) := by decide +kernel
theorem dX2_readClassHead_191 : decode cX2_readClassHead 191 = .ok (.invokevirtual 89, 3) := by decide +kernel
theorem dX2_readClassHead_194 : decode cX2_readClassHead 194 = .ok (.return_, 1) := by decide +kernel
theorem dX2_readClassAbove_0 : decode cX2_readClassAbove 0 = .ok (.aload_n 0, 1) := by decide +kernel
theorem dX2_readClassAbove_1 : decode cX2_readClassAbove 1 = .ok (.getfield 12, 3) := by decide +kernel
theorem dX2_readClassAbove_4 : decode cX2_readClassAbove 4 = .ok (.invokevirtual 157, 3) := by decide +kernel
theorem dX2_readClassAbove_7 : decode cX2_readClassAbove 7 = .ok (.aload_n 0, 1) := by decide +kernel
theorem dX2_readClassAbove_8 : decode cX2_readClassAbove 8 = .ok (.getfield 12, 3) := by decide +kernel
theorem dX2_readClassAbove_11 : decode cX2_readClassAbove 11 = .ok (.invokevirtual 129, 3) := by decide +kernel
theorem dX2_readClassAbove_14 : decode cX2_readClassAbove 14 = .ok (.istore_n 1, 1) := by decide +kernel
theorem dX2_readClassAbove_15 : decode cX2_readClassAbove 15 = .ok (.aload_n 0, 1) := by decide +kernel
theorem dX2_readClassAbove_16 : decode cX2_readClassAbove 16 = .ok (.getfield 51, 3) := by decide +kernel
theorem dX2_readClassAbove_19 : decode cX2_readClassAbove 19 = .ok (.aload_n 0, 1) := by decide +kernel
theorem dX2_readClassAbove_20 : decode cX2_readClassAbove 20 = .ok (.getfield 12, 3) := by decide +kernel
theorem dX2_readClassAbove_23 : decode cX2_readClassAbove 23 = .ok (.invokevirtual 132, 3) := by decide +kernel
theorem dX2_readClassAbove_26 : decode cX2_readClassAbove 26 = .ok (.invokevirtual 140, 3) := by decide +kernel
theorem dX2_readClassAbove_29 : decode cX2_readClassAbove 29 = .ok (.istore_n 2, 1) := by decide +kernel
theorem dX2_readClassAbove_30 : decode cX2_readClassAbove 30 = .ok (.aload_n 0, 1) := by decide +kernel
theorem dX2_readClassAbove_31 : decode cX2_readClassAbove 31 = .ok (.getfield 12, 3) := by decide +kernel
theorem dX2_readClassAbove_34 : decode cX2_readClassAbove 34 = .ok (.invokevirtual 85, 3) := by decide +kernel
theorem dX2_readClassAbove_37 : decode cX2_readClassAbove 37 = .ok (.iconst 3, 1) := by decide +kernel
theorem dX2_readClassAbove_38 : decode cX2_readClassAbove 38 = .ok (.if_icmp .eq 15, 3) := by decide +kernel
theorem dX2_readClassAbove_41 : decode cX2_readClassAbove 41 = .ok (.aload_n 0, 1) := by decide +kernel
theorem dX2_readClassAbove_42 : decode cX2_readClassAbove 42 = .ok (.getfield 12, 3) := by decide +kernel
theorem dX2_readClassAbove_45 : decode cX2_readClassAbove 45 = .ok (.iconst 1, 1) := by decide +kernel
theorem dX2_readClassAbove_46 : decode cX2_readClassAbove 46 = .ok (.iload_n 1, 1) := by decide +kernel
theorem dX2_readClassAbove_47 : decode cX2_readClassAbove 47 = .ok (.invokevirtual 136, 3) := by decide +kernel
theorem dX2_readClassAbove_50 : decode cX2_readClassAbove 50 = .ok (.goto 37, 3) := by decide +kernel
theorem dX2_readClassAbove_53 : decode cX2_readClassAbove 53 = .ok (.iload_n 2, 1) := by decide +kernel
theorem dX2_readClassAbove_54 : decode cX2_readClassAbove 54 = .ok (.iconst (-1), 1) := by decide +kernel
theorem dX2_readClassAbove_55 : decode cX2_readClassAbove 55 = .ok (.if_icmp .ne 15, 3) := by decide +kernel
theorem dX2_readClassAbove_58 : decode cX2_readClassAbove 58 = .ok (.aload_n 0, 1) := by decide +kernel
theorem dX2_readClassAbove_59 : decode cX2_readClassAbove 59 = .ok (.getfield 12, 3) := by decide +kernel
theorem dX2_readClassAbove_62 : decode cX2_readClassAbove 62 = .ok (.iconst 2, 1) := by decide +kernel
theorem dX2_readClassAbove_63 : decode cX2_readClassAbove 63 = .ok (.iload_n 1, 1) := by decide +kernel
theorem dX2_readClassAbove_64 : decode cX2_readClassAbove 64 = .ok (.invokevirtual 136, 3) := by decide +kernel
theorem dX2_readClassAbove_67 : decode cX2_readClassAbove 67 = .ok (.goto 20, 3) := by decide +kernel
theorem dX2_readClassAbove_70 : decode cX2_readClassAbove 70 = .ok (.aload_n 0, 1) := by decide +kernel
theorem dX2_readClassAbove_71 : decode cX2_readClassAbove 71 = .ok (.getfield 64, 3) := by decide +kernel
theorem dX2_readClassAbove_74 : decode cX2_readClassAbove 74 = .ok (.iload_n 2, 1) := by decide +kernel
theorem dX2_readClassAbove_75 : decode cX2_readClassAbove 75 = .ok (.aload_n 0, 1) := by decide +kernel
theorem dX2_readClassAbove_76 : decode cX2_readClassAbove 76 = .ok (.getfield 51, 3) := by decide +kernel
theorem dX2_readClassAbove_79 : decode cX2_readClassAbove 79 = .ok (.getfield 60, 3) := by decide +kernel
theorem dX2_readClassAbove_82 : decode cX2_readClassAbove 82 = .ok (.iload_n 2, 1) := by decide +kernel
theorem dX2_readClassAbove_83 : decode cX2_readClassAbove 83 = .ok (.aaload, 1) := by decide +kernel
theorem dX2_readClassAbove_84 : decode cX2_readClassAbove 84 = .ok (.invokevirtual 163, 3) := by decide +kernel
theorem dX2_readClassAbove_87 : decode cX2_readClassAbove 87 = .ok (.aload_n 0, 1) := by decide +kernel
theorem dX2_readClassAbove_88 : decode cX2_readClassAbove 88 = .ok (.getfield 12, 3) := by decide +kernel
theorem dX2_readClassAbove_91 : decode cX2_readClassAbove 91 = .ok (.invokevirtual 157, 3) := by decide +kernel
theorem dX2_readClassAbove_94 : decode cX2_readClassAbove 94 = .ok (.return_, 1) := by decide +kernel
theorem dX2_readRowSize_0 : decode cX2_readRowSize 0 = .ok (.aload_n 0, 1) := by decide +kernel
theorem dX2_readRowSize_1 : decode cX2_readRowSize 1 = .ok (.getfield 12, 3) := by decide +kernel
theorem dX2_readRowSize_4 : decode cX2_readRowSize 4 = .ok (.invokevirtual 157, 3) := by decide +kernel
theorem dX2_readRowSize_7 : decode cX2_readRowSize 7 = .ok (.aload_n 0, 1) := by decide +kernel
theorem dX2_readRowSize_8 : decode cX2_readRowSize 8 = .ok (.getfield 12, 3) := by decide +kernel
theorem dX2_readRowSize_11 : decode cX2_readRowSize 11 = .ok (.invokevirtual 129, 3) := by decide +kernel
theorem dX2_readRowSize_14 : decode cX2_readRowSize 14 = .ok (.istore_n 1, 1) := by decide +kernel
theorem dX2_readRowSize_15 : decode cX2_readRowSize 15 = .ok (.aload_n 0, 1) := by decide +kernel
theorem dX2_readRowSize_16 : decode cX2_readRowSize 16 = .ok (.getfield 12, 3) := by decide +kernel
theorem dX2_readRowSize_19 : decode cX2_readRowSize 19 = .ok (.invokevirtual 132, 3) := by decide +kernel
theorem dX2_readRowSize_22 : decode cX2_readRowSize 22 = .ok (.ldc2_w 190, 3) := by decide +kernel
theorem dX2_readRowSize_25 : decode cX2_readRowSize 25 = .ok (.invokestatic 192, 3) := by decide +kernel
theorem dX2_readRowSize_28 : decode cX2_readRowSize 28 = .ok (.l2i, 1) := by decide +kernel
theorem dX2_readRowSize_29 : decode cX2_readRowSize 29 = .ok (.istore_n 2, 1) := by decide +kernel
theorem dX2_readRowSize_30 : decode cX2_readRowSize 30 = .ok (.aload_n 0, 1) := by decide +kernel
theorem dX2_readRowSize_31 : decode cX2_readRowSize 31 = .ok (.getfield 12, 3) := by decide +kernel
theorem dX2_readRowSize_34 : decode cX2_readRowSize 34 = .ok (.invokevirtual 85, 3) := by decide +kernel
theorem dX2_readRowSize_37 : decode cX2_readRowSize 37 = .ok (.iconst 4, 1) := by decide +kernel
theorem dX2_readRowSize_38 : decode cX2_readRowSize 38 = .ok (.if_icmp .eq 15, 3) := by decide +kernel
theorem dX2_readRowSize_41 : decode cX2_readRowSize 41 = .ok (.aload_n 0, 1) := by decide +kernel
theorem dX2_readRowSize_42 : decode cX2_readRowSize 42 = .ok (.getfield 12, 3) := by decide +kernel
theorem dX2_readRowSize_45 : decode cX2_readRowSize 45 = .ok (.iconst 1, 1) := by decide +kernel
theorem dX2_readRowSize_46 : decode cX2_readRowSize 46 = .ok (.iload_n 1, 1) := by decide +kernel
theorem dX2_readRowSize_47 : decode cX2_readRowSize 47 = .ok (.invokevirtual 136, 3) := by decide +kernel
theorem dX2_readRowSize_50 : decode cX2_readRowSize 50 = .ok (.goto 49, 3) := by decide +kernel
theorem dX2_readRowSize_53 : decode cX2_readRowSize 53 = .ok (.iload_n 2, 1) := by decide +kernel
theorem dX2_readRowSize_54 : decode cX2_readRowSize 54 = .ok (.iconst 1, 1) := by decide +kernel
theorem dX2_readRowSize_55 : decode cX2_readRowSize 55 = .ok (.if_icmp .lt 9, 3) := by decide +kernel
theorem dX2_readRowSize_58 : decode cX2_readRowSize 58 = .ok (.iload_n 2, 1) := by decide +kernel
theorem dX2_readRowSize_59 : decode cX2_readRowSize 59 = .ok (.bipush 8, 2) := by decide +kernel
theorem dX2_readRowSize_61 : decode cX2_readRowSize 61 = .ok (.if_icmp .le 15, 3) := by decide +kernel
theorem dX2_readRowSize_64 : decode cX2_readRowSize 64 = .ok (.aload_n 0, 1) := by decide +kernel
theorem dX2_readRowSize_65 : decode cX2_readRowSize 65 = .ok (.getfield 12, 3) := by decide +kernel
theorem dX2_readRowSize_68 : decode cX2_readRowSize 68 = .ok (.iconst 3, 1) := by decide +kernel
theorem dX2_readRowSize_69 : decode cX2_readRowSize 69 = .ok (.iload_n 1, 1) := by decide +kernel
theorem dX2_readRowSize_70 : decode cX2_readRowSize 70 = .ok (.invokevirtual 136, 3) := by decide +kernel
theorem dX2_readRowSize_73 : decode cX2_readRowSize 73 = .ok (.goto 26, 3) := by decide +kernel
theorem dX2_readRowSize_76 : decode cX2_readRowSize 76 = .ok (.aload_n 0, 1) := by decide +kernel
theorem dX2_readRowSize_77 : decode cX2_readRowSize 77 = .ok (.getfield 64, 3) := by decide +kernel
theorem dX2_readRowSize_80 : decode cX2_readRowSize 80 = .ok (.getfield 176, 3) := by decide +kernel
theorem dX2_readRowSize_83 : decode cX2_readRowSize 83 = .ok (.iload_n 2, 1) := by decide +kernel
theorem dX2_readRowSize_84 : decode cX2_readRowSize 84 = .ok (.iadd, 1) := by decide +kernel
theorem dX2_readRowSize_85 : decode cX2_readRowSize 85 = .ok (.bipush 24, 2) := by decide +kernel
theorem dX2_readRowSize_87 : decode cX2_readRowSize 87 = .ok (.if_icmp .le 12, 3) := by decide +kernel
theorem dX2_readRowSize_90 : decode cX2_readRowSize 90 = .ok (.aload_n 0, 1) := by decide +kernel
theorem dX2_readRowSize_91 : decode cX2_readRowSize 91 = .ok (.getfield 12, 3) := by decide +kernel
theorem dX2_readRowSize_94 : decode cX2_readRowSize 94 = .ok (.iconst 4, 1) := by decide +kernel
theorem dX2_readRowSize_95 : decode cX2_readRowSize 95 = .ok (.iload_n 1, 1) := by decide +kernel
theorem dX2_readRowSize_96 : decode cX2_readRowSize 96 = .ok (.invokevirtual 136, 3) := by decide +kernel
theorem dX2_readRowSize_99 : decode cX2_readRowSize 99 = .ok (.aload_n 0, 1) := by decide +kernel
theorem dX2_readRowSize_100 : decode cX2_readRowSize 100 = .ok (.getfield 12, 3) := by decide +kernel
theorem dX2_readRowSize_103 : decode cX2_readRowSize 103 = .ok (.invokevirtual 157, 3) := by decide +kernel
theorem dX2_readRowSize_106 : decode cX2_readRowSize 106 = .ok (.aload_n 0, 1) := by decide +kernel
theorem dX2_readRowSize_107 : decode cX2_readRowSize 107 = .ok (.getfield 12, 3) := by decide +kernel
theorem dX2_readRowSize_110 : decode cX2_readRowSize 110 = .ok (.bipush 93, 2) := by decide +kernel
theorem dX2_readRowSize_112 : decode cX2_readRowSize 112 = .ok (.invokevirtual 89, 3) := by decide +kernel
theorem dX2_readRowSize_115 : decode cX2_readRowSize 115 = .ok (.iload_n 2, 1) := by decide +kernel
theorem dX2_readRowSize_116 : decode cX2_readRowSize 116 = .ok (.ireturn, 1) := by decide +kernel
theorem dX2_readNumber_0 : decode cX2_readNumber 0 = .ok (.aload_n 0, 1) := by decide +kernel
theorem dX2_readNumber_1 : decode cX2_readNumber 1 = .ok (.getfield 12, 3) := by decide +kernel
theorem dX2_readNumber_4 : decode cX2_readNumber 4 = .ok (.invokevirtual 85, 3) := by decide +kernel
theorem dX2_readNumber_7 : decode cX2_readNumber 7 = .ok (.bipush 45, 2) := by decide +kernel
theorem dX2_readNumber_9 : decode cX2_readNumber 9 = .ok (.if_icmp .ne 7, 3) := by decide +kernel
theorem dX2_readNumber_12 : decode cX2_readNumber 12 = .ok (.iconst 1, 1) := by decide +kernel
theorem dX2_readNumber_13 : decode cX2_readNumber 13 = .ok (.goto 4, 3) := by decide +kernel
theorem dX2_readNumber_16 : decode cX2_readNumber 16 = .ok (.iconst 0, 1) := by decide +kernel
theorem dX2_readNumber_17 : decode cX2_readNumber 17 = .ok (.istore_n 2, 1) := by decide +kernel
theorem dX2_readNumber_18 : decode cX2_readNumber 18 = .ok (.iload_n 2, 1) := by decide +kernel
theorem dX2_readNumber_19 : decode cX2_readNumber 19 = .ok (.ifCond .eq 10, 3) := by decide +kernel
theorem dX2_readNumber_22 : decode cX2_readNumber 22 = .ok (.aload_n 0, 1) := by decide +kernel
theorem dX2_readNumber_23 : decode cX2_readNumber 23 = .ok (.getfield 12, 3) := by decide +kernel
theorem dX2_readNumber_26 : decode cX2_readNumber 26 = .ok (.invokevirtual 157, 3) := by decide +kernel
theorem dX2_readNumber_29 : decode cX2_readNumber 29 = .ok (.iload_n 2, 1) := by decide +kernel
theorem dX2_readNumber_30 : decode cX2_readNumber 30 = .ok (.ifCond .eq 15, 3) := by decide +kernel
theorem dX2_readNumber_33 : decode cX2_readNumber 33 = .ok (.aload_n 0, 1) := by decide +kernel
theorem dX2_readNumber_34 : decode cX2_readNumber 34 = .ok (.getfield 12, 3) := by decide +kernel
theorem dX2_readNumber_37 : decode cX2_readNumber 37 = .ok (.invokevirtual 132, 3) := by decide +kernel
theorem dX2_readNumber_40 : decode cX2_readNumber 40 = .ok (.lneg, 1) := by decide +kernel
theorem dX2_readNumber_41 : decode cX2_readNumber 41 = .ok (.l2i, 1) := by decide +kernel
theorem dX2_readNumber_42 : decode cX2_readNumber 42 = .ok (.goto 11, 3) := by decide +kernel
theorem dX2_readNumber_45 : decode cX2_readNumber 45 = .ok (.aload_n 0, 1) := by decide +kernel
theorem dX2_readNumber_46 : decode cX2_readNumber 46 = .ok (.getfield 12, 3) := by decide +kernel
theorem dX2_readNumber_49 : decode cX2_readNumber 49 = .ok (.invokevirtual 132, 3) := by decide +kernel
theorem dX2_readNumber_52 : decode cX2_readNumber 52 = .ok (.l2i, 1) := by decide +kernel
theorem dX2_readNumber_53 : decode cX2_readNumber 53 = .ok (.istore_n 3, 1) := by decide +kernel
theorem dX2_readNumber_54 : decode cX2_readNumber 54 = .ok (.aload_n 0, 1) := by decide +kernel
theorem dX2_readNumber_55 : decode cX2_readNumber 55 = .ok (.getfield 12, 3) := by decide +kernel
theorem dX2_readNumber_58 : decode cX2_readNumber 58 = .ok (.invokevirtual 85, 3) := by decide +kernel
theorem dX2_readNumber_61 : decode cX2_readNumber 61 = .ok (.iconst 4, 1) := by decide +kernel
theorem dX2_readNumber_62 : decode cX2_readNumber 62 = .ok (.if_icmp .eq 21, 3) := by decide +kernel
theorem dX2_readNumber_65 : decode cX2_readNumber 65 = .ok (.aload_n 0, 1) := by decide +kernel
theorem dX2_readNumber_66 : decode cX2_readNumber 66 = .ok (.getfield 12, 3) := by decide +kernel
theorem dX2_readNumber_69 : decode cX2_readNumber 69 = .ok (.iconst 1, 1) := by decide +kernel
theorem dX2_readNumber_70 : decode cX2_readNumber 70 = .ok (.aload_n 0, 1) := by decide +kernel
theorem dX2_readNumber_71 : decode cX2_readNumber 71 = .ok (.getfield 12, 3) := by decide +kernel
theorem dX2_readNumber_74 : decode cX2_readNumber 74 = .ok (.invokevirtual 129, 3) := by decide +kernel
theorem dX2_readNumber_77 : decode cX2_readNumber 77 = .ok (.invokevirtual 136, 3) := by decide +kernel
theorem dX2_readNumber_80 : decode cX2_readNumber 80 = .ok (.goto 23, 3) := by decide +kernel
theorem dX2_readNumber_83 : decode cX2_readNumber 83 = .ok (.iload_n 3, 1) := by decide +kernel
theorem dX2_readNumber_84 : decode cX2_readNumber 84 = .ok (.iload_n 1, 1) := by decide +kernel
theorem dX2_readNumber_85 : decode cX2_readNumber 85 = .ok (.if_icmp .ge 18, 3) := by decide +kernel
theorem dX2_readNumber_88 : decode cX2_readNumber 88 = .ok (.aload_n 0, 1) := by decide +kernel
theorem dX2_readNumber_89 : decode cX2_readNumber 89 = .ok (.getfield 12, 3) := by decide +kernel
theorem dX2_readNumber_92 : decode cX2_readNumber 92 = .ok (.iconst 3, 1) := by decide +kernel
theorem dX2_readNumber_93 : decode cX2_readNumber 93 = .ok (.aload_n 0, 1) := by decide +kernel
theorem dX2_readNumber_94 : decode cX2_readNumber 94 = .ok (.getfield 12, 3) := by decide +kernel
theorem dX2_readNumber_97 : decode cX2_readNumber 97 = .ok (.invokevirtual 129, 3) := by decide +kernel
theorem dX2_readNumber_100 : decode cX2_readNumber 100 = .ok (.invokevirtual 136, 3) := by decide +kernel
theorem dX2_readNumber_103 : decode cX2_readNumber 103 = .ok (.aload_n 0, 1) := by decide +kernel
theorem dX2_readNumber_104 : decode cX2_readNumber 104 = .ok (.getfield 12, 3) := by decide +kernel
theorem dX2_readNumber_107 : decode cX2_readNumber 107 = .ok (.invokevirtual 157, 3) := by decide +kernel
theorem dX2_readNumber_110 : decode cX2_readNumber 110 = .ok (.iload_n 3, 1) := by decide +kernel
theorem dX2_readNumber_111 : decode cX2_readNumber 111 = .ok (.ireturn, 1) := by decide +kernel
theorem dX2_readMemberHead_0 : decode cX2_readMemberHead 0 = .ok (.aload_n 0, 1) := by decide +kernel
theorem dX2_readMemberHead_1 : decode cX2_readMemberHead 1 = .ok (.getfield 12, 3) := by decide +kernel
theorem dX2_readMemberHead_4 : decode cX2_readMemberHead 4 = .ok (.invokevirtual 157, 3) := by decide +kernel
theorem dX2_readMemberHead_7 : decode cX2_readMemberHead 7 = .ok (.aload_n 0, 1) := by decide +kernel
theorem dX2_readMemberHead_8 : decode cX2_readMemberHead 8 = .ok (.getfield 12, 3) := by decide +kernel
theorem dX2_readMemberHead_11 : decode cX2_readMemberHead 11 = .ok (.invokevirtual 129, 3) := by decide +kernel
theorem dX2_readMemberHead_14 : decode cX2_readMemberHead 14 = .ok (.istore_n 1, 1) := by decide +kernel
theorem dX2_readMemberHead_15 : decode cX2_readMemberHead 15 = .ok (.aload_n 0, 1) := by decide +kernel
theorem dX2_readMemberHead_16 : decode cX2_readMemberHead 16 = .ok (.getfield 12, 3) := by decide +kernel
theorem dX2_readMemberHead_19 : decode cX2_readMemberHead 19 = .ok (.invokevirtual 132, 3) := by decide +kernel
theorem dX2_readMemberHead_22 : decode cX2_readMemberHead 22 = .ok (.lstore_n 2, 1) := by decide +kernel
theorem dX2_readMemberHead_23 : decode cX2_readMemberHead 23 = .ok (.aload_n 0, 1) := by decide +kernel
theorem dX2_readMemberHead_24 : decode cX2_readMemberHead 24 = .ok (.getfield 51, 3) := by decide +kernel
theorem dX2_readMemberHead_27 : decode cX2_readMemberHead 27 = .ok (.aload_n 0, 1) := by decide +kernel
theorem dX2_readMemberHead_28 : decode cX2_readMemberHead 28 = .ok (.getfield 64, 3) := by decide +kernel
theorem dX2_readMemberHead_31 : decode cX2_readMemberHead 31 = .ok (.lload_n 2, 1) := by decide +kernel
theorem dX2_readMemberHead_32 : decode cX2_readMemberHead 32 = .ok (.invokevirtual 224, 3) := by decide +kernel
theorem dX2_readMemberHead_35 : decode cX2_readMemberHead 35 = .ok (.istore 4, 2) := by decide +kernel
theorem dX2_readMemberHead_37 : decode cX2_readMemberHead 37 = .ok (.iload 4, 2) := by decide +kernel
theorem dX2_readMemberHead_39 : decode cX2_readMemberHead 39 = .ok (.iconst (-1), 1) := by decide +kernel
theorem dX2_readMemberHead_40 : decode cX2_readMemberHead 40 = .ok (.if_icmp .ne 7, 3) := by decide +kernel
theorem dX2_readMemberHead_43 : decode cX2_readMemberHead 43 = .ok (.iconst (-1), 1) := by decide +kernel
theorem dX2_readMemberHead_44 : decode cX2_readMemberHead 44 = .ok (.goto 13, 3) := by decide +kernel
theorem dX2_readMemberHead_47 : decode cX2_readMemberHead 47 = .ok (.aload_n 0, 1) := by decide +kernel
theorem dX2_readMemberHead_48 : decode cX2_readMemberHead 48 = .ok (.getfield 64, 3) := by decide +kernel
theorem dX2_readMemberHead_51 : decode cX2_readMemberHead 51 = .ok (.getfield 228, 3) := by decide +kernel
theorem dX2_readMemberHead_54 : decode cX2_readMemberHead 54 = .ok (.iload 4, 2) := by decide +kernel
theorem dX2_readMemberHead_56 : decode cX2_readMemberHead 56 = .ok (.iaload, 1) := by decide +kernel
theorem dX2_readMemberHead_57 : decode cX2_readMemberHead 57 = .ok (.istore 5, 2) := by decide +kernel
theorem dX2_readMemberHead_59 : decode cX2_readMemberHead 59 = .ok (.aload_n 0, 1) := by decide +kernel
theorem dX2_readMemberHead_60 : decode cX2_readMemberHead 60 = .ok (.getfield 12, 3) := by decide +kernel
theorem dX2_readMemberHead_63 : decode cX2_readMemberHead 63 = .ok (.invokevirtual 85, 3) := by decide +kernel
theorem dX2_readMemberHead_66 : decode cX2_readMemberHead 66 = .ok (.iconst 3, 1) := by decide +kernel
theorem dX2_readMemberHead_67 : decode cX2_readMemberHead 67 = .ok (.if_icmp .eq 15, 3) := by decide +kernel
theorem dX2_readMemberHead_70 : decode cX2_readMemberHead 70 = .ok (.aload_n 0, 1) := by decide +kernel
theorem dX2_readMemberHead_71 : decode cX2_readMemberHead 71 = .ok (.getfield 12, 3) := by decide +kernel
theorem dX2_readMemberHead_74 : decode cX2_readMemberHead 74 = .ok (.iconst 1, 1) := by decide +kernel
theorem dX2_readMemberHead_75 : decode cX2_readMemberHead 75 = .ok (.iload_n 1, 1) := by decide +kernel
theorem dX2_readMemberHead_76 : decode cX2_readMemberHead 76 = .ok (.invokevirtual 136, 3) := by decide +kernel
theorem dX2_readMemberHead_79 : decode cX2_readMemberHead 79 = .ok (.goto 82, 3) := by decide +kernel
theorem dX2_readMemberHead_82 : decode cX2_readMemberHead 82 = .ok (.iload 5, 2) := by decide +kernel
theorem dX2_readMemberHead_84 : decode cX2_readMemberHead 84 = .ok (.iconst (-1), 1) := by decide +kernel
theorem dX2_readMemberHead_85 : decode cX2_readMemberHead 85 = .ok (.if_icmp .eq 38, 3) := by decide +kernel
theorem dX2_readMemberHead_88 : decode cX2_readMemberHead 88 = .ok (.aload_n 0, 1) := by decide +kernel
theorem dX2_readMemberHead_89 : decode cX2_readMemberHead 89 = .ok (.getfield 51, 3) := by decide +kernel
theorem dX2_readMemberHead_92 : decode cX2_readMemberHead 92 = .ok (.getfield 68, 3) := by decide +kernel
theorem dX2_readMemberHead_95 : decode cX2_readMemberHead 95 = .ok (.iload 5, 2) := by decide +kernel
theorem dX2_readMemberHead_97 : decode cX2_readMemberHead 97 = .ok (.aaload, 1) := by decide +kernel
theorem dX2_readMemberHead_98 : decode cX2_readMemberHead 98 = .ok (.getfield 231, 3) := by decide +kernel
theorem dX2_readMemberHead_101 : decode cX2_readMemberHead 101 = .ok (.aload_n 0, 1) := by decide +kernel
theorem dX2_readMemberHead_102 : decode cX2_readMemberHead 102 = .ok (.getfield 21, 3) := by decide +kernel
theorem dX2_readMemberHead_105 : decode cX2_readMemberHead 105 = .ok (.getfield 154, 3) := by decide +kernel
theorem dX2_readMemberHead_108 : decode cX2_readMemberHead 108 = .ok (.if_icmp .ne 15, 3) := by decide +kernel
theorem dX2_readMemberHead_111 : decode cX2_readMemberHead 111 = .ok (.aload_n 0, 1) := by decide +kernel
theorem dX2_readMemberHead_112 : decode cX2_readMemberHead 112 = .ok (.getfield 12, 3) := by decide +kernel
theorem dX2_readMemberHead_115 : decode cX2_readMemberHead 115 = .ok (.iconst 2, 1) := by decide +kernel
theorem dX2_readMemberHead_116 : decode cX2_readMemberHead 116 = .ok (.iload_n 1, 1) := by decide +kernel
theorem dX2_readMemberHead_117 : decode cX2_readMemberHead 117 = .ok (.invokevirtual 136, 3) := by decide +kernel
theorem dX2_readMemberHead_120 : decode cX2_readMemberHead 120 = .ok (.goto 41, 3) := by decide +kernel
theorem dX2_readMemberHead_123 : decode cX2_readMemberHead 123 = .ok (.iload 5, 2) := by decide +kernel
theorem dX2_readMemberHead_125 : decode cX2_readMemberHead 125 = .ok (.iconst (-1), 1) := by decide +kernel
theorem dX2_readMemberHead_126 : decode cX2_readMemberHead 126 = .ok (.if_icmp .ne 27, 3) := by decide +kernel
theorem dX2_readMemberHead_129 : decode cX2_readMemberHead 129 = .ok (.aload_n 0, 1) := by decide +kernel
theorem dX2_readMemberHead_130 : decode cX2_readMemberHead 130 = .ok (.getfield 64, 3) := by decide +kernel
theorem dX2_readMemberHead_133 : decode cX2_readMemberHead 133 = .ok (.getfield 235, 3) := by decide +kernel
theorem dX2_readMemberHead_136 : decode cX2_readMemberHead 136 = .ok (.bipush 12, 2) := by decide +kernel
theorem dX2_readMemberHead_138 : decode cX2_readMemberHead 138 = .ok (.if_icmp .lt 15, 3) := by decide +kernel
theorem dX2_readMemberHead_141 : decode cX2_readMemberHead 141 = .ok (.aload_n 0, 1) := by decide +kernel
theorem dX2_readMemberHead_142 : decode cX2_readMemberHead 142 = .ok (.getfield 12, 3) := by decide +kernel
theorem dX2_readMemberHead_145 : decode cX2_readMemberHead 145 = .ok (.iconst 4, 1) := by decide +kernel
theorem dX2_readMemberHead_146 : decode cX2_readMemberHead 146 = .ok (.iload_n 1, 1) := by decide +kernel
theorem dX2_readMemberHead_147 : decode cX2_readMemberHead 147 = .ok (.invokevirtual 136, 3) := by decide +kernel
theorem dX2_readMemberHead_150 : decode cX2_readMemberHead 150 = .ok (.goto 11, 3) := by decide +kernel
theorem dX2_readMemberHead_153 : decode cX2_readMemberHead 153 = .ok (.aload_n 0, 1) := by decide +kernel
theorem dX2_readMemberHead_154 : decode cX2_readMemberHead 154 = .ok (.lload_n 2, 1) := by decide +kernel
theorem dX2_readMemberHead_155 : decode cX2_readMemberHead 155 = .ok (.iload_n 1, 1) := by decide +kernel
theorem dX2_readMemberHead_156 : decode cX2_readMemberHead 156 = .ok (.iload 4, 2) := by decide +kernel
theorem dX2_readMemberHead_158 : decode cX2_readMemberHead 158 = .ok (.invokevirtual 238, 3) := by decide +kernel
theorem dX2_readMemberHead_161 : decode cX2_readMemberHead 161 = .ok (.aload_n 0, 1) := by decide +kernel
theorem dX2_readMemberHead_162 : decode cX2_readMemberHead 162 = .ok (.getfield 12, 3) := by decide +kernel
theorem dX2_readMemberHead_165 : decode cX2_readMemberHead 165 = .ok (.invokevirtual 157, 3) := by decide +kernel
theorem dX2_readMemberHead_168 : decode cX2_readMemberHead 168 = .ok (.aload_n 0, 1) := by decide +kernel
theorem dX2_readMemberHead_169 : decode cX2_readMemberHead 169 = .ok (.getfield 12, 3) := by decide +kernel
theorem dX2_readMemberHead_172 : decode cX2_readMemberHead 172 = .ok (.bipush 40, 2) := by decide +kernel
theorem dX2_readMemberHead_174 : decode cX2_readMemberHead 174 = .ok (.invokevirtual 89, 3) := by decide +kernel
theorem dX2_readMemberHead_177 : decode cX2_readMemberHead 177 = .ok (.aload_n 0, 1) := by decide +kernel
theorem dX2_readMemberHead_178 : decode cX2_readMemberHead 178 = .ok (.getfield 12, 3) := by decide +kernel
theorem dX2_readMemberHead_181 : decode cX2_readMemberHead 181 = .ok (.invokevirtual 85, 3) := by decide +kernel
theorem dX2_readMemberHead_184 : decode cX2_readMemberHead 184 = .ok (.bipush 41, 2) := by decide +kernel
theorem dX2_readMemberHead_186 : decode cX2_readMemberHead 186 = .ok (.if_icmp .eq 7, 3) := by decide +kernel
theorem dX2_readMemberHead_189 : decode cX2_readMemberHead 189 = .ok (.iconst 1, 1) := by decide +kernel
theorem dX2_readMemberHead_190 : decode cX2_readMemberHead 190 = .ok (.goto 4, 3) := by decide +kernel
theorem dX2_readMemberHead_193 : decode cX2_readMemberHead 193 = .ok (.iconst 0, 1) := by decide +kernel
theorem dX2_readMemberHead_194 : decode cX2_readMemberHead 194 = .ok (.istore 6, 2) := by decide +kernel
theorem dX2_readMemberHead_196 : decode cX2_readMemberHead 196 = .ok (.iconst 0, 1) := by decide +kernel
theorem dX2_readMemberHead_197 : decode cX2_readMemberHead 197 = .ok (.istore 7, 2) := by decide +kernel
theorem dX2_readMemberHead_199 : decode cX2_readMemberHead 199 = .ok (.iload 7, 2) := by decide +kernel
theorem dX2_readMemberHead_201 : decode cX2_readMemberHead 201 = .ok (.iconst 3, 1) := by decide +kernel
theorem dX2_readMemberHead_202 : decode cX2_readMemberHead 202 = .ok (.if_icmp .gt 49, 3) := by decide +kernel
theorem dX2_readMemberHead_205 : decode cX2_readMemberHead 205 = .ok (.iload 6, 2) := by decide +kernel
theorem dX2_readMemberHead_207 : decode cX2_readMemberHead 207 = .ok (.ifCond .eq 44, 3) := by decide +kernel
theorem dX2_readMemberHead_210 : decode cX2_readMemberHead 210 = .ok (.aload_n 0, 1) := by decide +kernel
theorem dX2_readMemberHead_211 : decode cX2_readMemberHead 211 = .ok (.invokevirtual 241, 3) := by decide +kernel
theorem dX2_readMemberHead_214 : decode cX2_readMemberHead 214 = .ok (.aload_n 0, 1) := by decide +kernel
theorem dX2_readMemberHead_215 : decode cX2_readMemberHead 215 = .ok (.getfield 12, 3) := by decide +kernel
theorem dX2_readMemberHead_218 : decode cX2_readMemberHead 218 = .ok (.invokevirtual 85, 3) := by decide +kernel
theorem dX2_readMemberHead_221 : decode cX2_readMemberHead 221 = .ok (.bipush 44, 2) := by decide +kernel
theorem dX2_readMemberHead_223 : decode cX2_readMemberHead 223 = .ok (.if_icmp .ne 7, 3) := by decide +kernel
theorem dX2_readMemberHead_226 : decode cX2_readMemberHead 226 = .ok (.iconst 1, 1) := by decide +kernel
theorem dX2_readMemberHead_227 : decode cX2_readMemberHead 227 = .ok (.goto 4, 3) := by decide +kernel
theorem dX2_readMemberHead_230 : decode cX2_readMemberHead 230 = .ok (.iconst 0, 1) := by decide +kernel
theorem dX2_readMemberHead_231 : decode cX2_readMemberHead 231 = .ok (.istore 6, 2) := by decide +kernel
theorem dX2_readMemberHead_233 : decode cX2_readMemberHead 233 = .ok (.iload 6, 2) := by decide +kernel
theorem dX2_readMemberHead_235 : decode cX2_readMemberHead 235 = .ok (.ifCond .eq 10, 3) := by decide +kernel
theorem dX2_readMemberHead_238 : decode cX2_readMemberHead 238 = .ok (.aload_n 0, 1) := by decide +kernel
theorem dX2_readMemberHead_239 : decode cX2_readMemberHead 239 = .ok (.getfield 12, 3) := by decide +kernel
theorem dX2_readMemberHead_242 : decode cX2_readMemberHead 242 = .ok (.invokevirtual 157, 3) := by decide +kernel
theorem dX2_readMemberHead_245 : decode cX2_readMemberHead 245 = .ok (.iinc 7 1, 3) := by decide +kernel
theorem dX2_readMemberHead_248 : decode cX2_readMemberHead 248 = .ok (.goto (-49), 3) := by decide +kernel
theorem dX2_readMemberHead_251 : decode cX2_readMemberHead 251 = .ok (.aload_n 0, 1) := by decide +kernel
theorem dX2_readMemberHead_252 : decode cX2_readMemberHead 252 = .ok (.getfield 12, 3) := by decide +kernel
theorem dX2_readMemberHead_255 : decode cX2_readMemberHead 255 = .ok (.invokevirtual 129, 3) := by decide +kernel
theorem dX2_readMemberHead_258 : decode cX2_readMemberHead 258 = .ok (.istore 7, 2) := by decide +kernel
theorem dX2_readMemberHead_260 : decode cX2_readMemberHead 260 = .ok (.aload_n 0, 1) := by decide +kernel
theorem dX2_readMemberHead_261 : decode cX2_readMemberHead 261 = .ok (.getfield 12, 3) := by decide +kernel
theorem dX2_readMemberHead_264 : decode cX2_readMemberHead 264 = .ok (.bipush 41, 2) := by decide +kernel
theorem dX2_readMemberHead_266 : decode cX2_readMemberHead 266 = .ok (.invokevirtual 89, 3) := by decide +kernel
theorem dX2_readMemberHead_269 : decode cX2_readMemberHead 269 = .ok (.iload 5, 2) := by decide +kernel
theorem dX2_readMemberHead_271 : decode cX2_readMemberHead 271 = .ok (.iconst (-1), 1) := by decide +kernel
theorem dX2_readMemberHead_272 : decode cX2_readMemberHead 272 = .ok (.if_icmp .eq 36, 3) := by decide +kernel
theorem dX2_readMemberHead_275 : decode cX2_readMemberHead 275 = .ok (.aload_n 0, 1) := by decide +kernel
theorem dX2_readMemberHead_276 : decode cX2_readMemberHead 276 = .ok (.getfield 51, 3) := by decide +kernel
theorem dX2_readMemberHead_279 : decode cX2_readMemberHead 279 = .ok (.getfield 68, 3) := by decide +kernel
theorem dX2_readMemberHead_282 : decode cX2_readMemberHead 282 = .ok (.iload 5, 2) := by decide +kernel
theorem dX2_readMemberHead_284 : decode cX2_readMemberHead 284 = .ok (.aaload, 1) := by decide +kernel
theorem dX2_readMemberHead_285 : decode cX2_readMemberHead 285 = .ok (.getfield 244, 3) := by decide +kernel
theorem dX2_readMemberHead_288 : decode cX2_readMemberHead 288 = .ok (.aload_n 0, 1) := by decide +kernel
theorem dX2_readMemberHead_289 : decode cX2_readMemberHead 289 = .ok (.getfield 72, 3) := by decide +kernel
theorem dX2_readMemberHead_292 : decode cX2_readMemberHead 292 = .ok (.getfield 244, 3) := by decide +kernel
theorem dX2_readMemberHead_295 : decode cX2_readMemberHead 295 = .ok (.if_icmp .eq 13, 3) := by decide +kernel
theorem dX2_readMemberHead_298 : decode cX2_readMemberHead 298 = .ok (.aload_n 0, 1) := by decide +kernel
theorem dX2_readMemberHead_299 : decode cX2_readMemberHead 299 = .ok (.getfield 12, 3) := by decide +kernel
theorem dX2_readMemberHead_302 : decode cX2_readMemberHead 302 = .ok (.iconst 5, 1) := by decide +kernel
theorem dX2_readMemberHead_303 : decode cX2_readMemberHead 303 = .ok (.iload 7, 2) := by decide +kernel
theorem dX2_readMemberHead_305 : decode cX2_readMemberHead 305 = .ok (.invokevirtual 136, 3) := by decide +kernel
theorem dX2_readMemberHead_308 : decode cX2_readMemberHead 308 = .ok (.return_, 1) := by decide +kernel
theorem dX2_beginTelling_0 : decode cX2_beginTelling 0 = .ok (.aload_n 0, 1) := by decide +kernel
theorem dX2_beginTelling_1 : decode cX2_beginTelling 1 = .ok (.getfield 51, 3) := by decide +kernel
theorem dX2_beginTelling_4 : decode cX2_beginTelling 4 = .ok (.getfield 247, 3) := by decide +kernel
theorem dX2_beginTelling_7 : decode cX2_beginTelling 7 = .ok (.bipush 95, 2) := by decide +kernel
theorem dX2_beginTelling_9 : decode cX2_beginTelling 9 = .ok (.invokestatic 250, 3) := by decide +kernel
theorem dX2_beginTelling_12 : decode cX2_beginTelling 12 = .ok (.istore 5, 2) := by decide +kernel
theorem dX2_beginTelling_14 : decode cX2_beginTelling 14 = .ok (.aload_n 0, 1) := by decide +kernel
theorem dX2_beginTelling_15 : decode cX2_beginTelling 15 = .ok (.getfield 51, 3) := by decide +kernel
theorem dX2_beginTelling_18 : decode cX2_beginTelling 18 = .ok (.iload 5, 2) := by decide +kernel
theorem dX2_beginTelling_20 : decode cX2_beginTelling 20 = .ok (.iconst 1, 1) := by decide +kernel
theorem dX2_beginTelling_21 : decode cX2_beginTelling 21 = .ok (.iadd, 1) := by decide +kernel
theorem dX2_beginTelling_22 : decode cX2_beginTelling 22 = .ok (.putfield 247, 3) := by decide +kernel
theorem dX2_beginTelling_25 : decode cX2_beginTelling 25 = .ok (.iload 4, 2) := by decide +kernel
theorem dX2_beginTelling_27 : decode cX2_beginTelling 27 = .ok (.iconst (-1), 1) := by decide +kernel
theorem dX2_beginTelling_28 : decode cX2_beginTelling 28 = .ok (.if_icmp .ne 13, 3) := by decide +kernel
theorem dX2_beginTelling_31 : decode cX2_beginTelling 31 = .ok (.aload_n 0, 1) := by decide +kernel
theorem dX2_beginTelling_32 : decode cX2_beginTelling 32 = .ok (.getfield 64, 3) := by decide +kernel
theorem dX2_beginTelling_35 : decode cX2_beginTelling 35 = .ok (.getfield 235, 3) := by decide +kernel
theorem dX2_beginTelling_38 : decode cX2_beginTelling 38 = .ok (.goto 5, 3) := by decide +kernel
theorem dX2_beginTelling_41 : decode cX2_beginTelling 41 = .ok (.iload 4, 2) := by decide +kernel
theorem dX2_beginTelling_43 : decode cX2_beginTelling 43 = .ok (.istore 6, 2) := by decide +kernel
theorem dX2_beginTelling_45 : decode cX2_beginTelling 45 = .ok (.aload_n 0, 1) := by decide +kernel
theorem dX2_beginTelling_46 : decode cX2_beginTelling 46 = .ok (.aload_n 0, 1) := by decide +kernel
theorem dX2_beginTelling_47 : decode cX2_beginTelling 47 = .ok (.getfield 51, 3) := by decide +kernel
theorem dX2_beginTelling_50 : decode cX2_beginTelling 50 = .ok (.getfield 68, 3) := by decide +kernel
theorem dX2_beginTelling_53 : decode cX2_beginTelling 53 = .ok (.iload 5, 2) := by decide +kernel
theorem dX2_beginTelling_55 : decode cX2_beginTelling 55 = .ok (.aaload, 1) := by decide +kernel
theorem dX2_beginTelling_56 : decode cX2_beginTelling 56 = .ok (.putfield 72, 3) := by decide +kernel
theorem dX2_beginTelling_59 : decode cX2_beginTelling 59 = .ok (.aload_n 0, 1) := by decide +kernel
theorem dX2_beginTelling_60 : decode cX2_beginTelling 60 = .ok (.getfield 72, 3) := by decide +kernel
theorem dX2_beginTelling_63 : decode cX2_beginTelling 63 = .ok (.lload_n 1, 1) := by decide +kernel
theorem dX2_beginTelling_64 : decode cX2_beginTelling 64 = .ok (.putfield 253, 3) := by decide +kernel
theorem dX2_beginTelling_67 : decode cX2_beginTelling 67 = .ok (.aload_n 0, 1) := by decide +kernel
theorem dX2_beginTelling_68 : decode cX2_beginTelling 68 = .ok (.getfield 72, 3) := by decide +kernel
theorem dX2_beginTelling_71 : decode cX2_beginTelling 71 = .ok (.iload_n 3, 1) := by decide +kernel
theorem dX2_beginTelling_72 : decode cX2_beginTelling 72 = .ok (.putfield 257, 3) := by decide +kernel
theorem dX2_beginTelling_75 : decode cX2_beginTelling 75 = .ok (.aload_n 0, 1) := by decide +kernel
theorem dX2_beginTelling_76 : decode cX2_beginTelling 76 = .ok (.getfield 72, 3) := by decide +kernel
theorem dX2_beginTelling_79 : decode cX2_beginTelling 79 = .ok (.aload_n 0, 1) := by decide +kernel
theorem dX2_beginTelling_80 : decode cX2_beginTelling 80 = .ok (.getfield 21, 3) := by decide +kernel
theorem dX2_beginTelling_83 : decode cX2_beginTelling 83 = .ok (.getfield 154, 3) := by decide +kernel
theorem dX2_beginTelling_86 : decode cX2_beginTelling 86 = .ok (.putfield 231, 3) := by decide +kernel
theorem dX2_beginTelling_89 : decode cX2_beginTelling 89 = .ok (.aload_n 0, 1) := by decide +kernel
theorem dX2_beginTelling_90 : decode cX2_beginTelling 90 = .ok (.getfield 72, 3) := by decide +kernel
theorem dX2_beginTelling_93 : decode cX2_beginTelling 93 = .ok (.iconst 0, 1) := by decide +kernel
theorem dX2_beginTelling_94 : decode cX2_beginTelling 94 = .ok (.putfield 244, 3) := by decide +kernel
theorem dX2_beginTelling_97 : decode cX2_beginTelling 97 = .ok (.aload_n 0, 1) := by decide +kernel
theorem dX2_beginTelling_98 : decode cX2_beginTelling 98 = .ok (.getfield 72, 3) := by decide +kernel
theorem dX2_beginTelling_101 : decode cX2_beginTelling 101 = .ok (.iconst 0, 1) := by decide +kernel
theorem dX2_beginTelling_102 : decode cX2_beginTelling 102 = .ok (.putfield 259, 3) := by decide +kernel
theorem dX2_beginTelling_105 : decode cX2_beginTelling 105 = .ok (.aload_n 0, 1) := by decide +kernel
theorem dX2_beginTelling_106 : decode cX2_beginTelling 106 = .ok (.getfield 72, 3) := by decide +kernel
theorem dX2_beginTelling_109 : decode cX2_beginTelling 109 = .ok (.iload 4, 2) := by decide +kernel
theorem dX2_beginTelling_111 : decode cX2_beginTelling 111 = .ok (.iconst (-1), 1) := by decide +kernel
theorem dX2_beginTelling_112 : decode cX2_beginTelling 112 = .ok (.if_icmp .ne 7, 3) := by decide +kernel
theorem dX2_beginTelling_115 : decode cX2_beginTelling 115 = .ok (.iconst (-1), 1) := by decide +kernel
theorem dX2_beginTelling_116 : decode cX2_beginTelling 116 = .ok (.goto 13, 3) := by decide +kernel
theorem dX2_beginTelling_119 : decode cX2_beginTelling 119 = .ok (.aload_n 0, 1) := by decide +kernel
theorem dX2_beginTelling_120 : decode cX2_beginTelling 120 = .ok (.getfield 64, 3) := by decide +kernel
theorem dX2_beginTelling_123 : decode cX2_beginTelling 123 = .ok (.getfield 228, 3) := by decide +kernel
theorem dX2_beginTelling_126 : decode cX2_beginTelling 126 = .ok (.iload 6, 2) := by decide +kernel
theorem dX2_beginTelling_128 : decode cX2_beginTelling 128 = .ok (.iaload, 1) := by decide +kernel
theorem dX2_beginTelling_129 : decode cX2_beginTelling 129 = .ok (.putfield 262, 3) := by decide +kernel
theorem dX2_beginTelling_132 : decode cX2_beginTelling 132 = .ok (.aload_n 0, 1) := by decide +kernel
theorem dX2_beginTelling_133 : decode cX2_beginTelling 133 = .ok (.getfield 72, 3) := by decide +kernel
theorem dX2_beginTelling_136 : decode cX2_beginTelling 136 = .ok (.iconst 0, 1) := by decide +kernel
theorem dX2_beginTelling_137 : decode cX2_beginTelling 137 = .ok (.putfield 265, 3) := by decide +kernel
theorem dX2_beginTelling_140 : decode cX2_beginTelling 140 = .ok (.aload_n 0, 1) := by decide +kernel
theorem dX2_beginTelling_141 : decode cX2_beginTelling 141 = .ok (.getfield 72, 3) := by decide +kernel
theorem dX2_beginTelling_144 : decode cX2_beginTelling 144 = .ok (.aload_n 0, 1) := by decide +kernel
theorem dX2_beginTelling_145 : decode cX2_beginTelling 145 = .ok (.getfield 51, 3) := by decide +kernel
theorem dX2_beginTelling_148 : decode cX2_beginTelling 148 = .ok (.getfield 268, 3) := by decide +kernel
theorem dX2_beginTelling_151 : decode cX2_beginTelling 151 = .ok (.putfield 271, 3) := by decide +kernel
theorem dX2_beginTelling_154 : decode cX2_beginTelling 154 = .ok (.aload_n 0, 1) := by decide +kernel
theorem dX2_beginTelling_155 : decode cX2_beginTelling 155 = .ok (.getfield 72, 3) := by decide +kernel
theorem dX2_beginTelling_158 : decode cX2_beginTelling 158 = .ok (.iconst 0, 1) := by decide +kernel
theorem dX2_beginTelling_159 : decode cX2_beginTelling 159 = .ok (.putfield 274, 3) := by decide +kernel
theorem dX2_beginTelling_162 : decode cX2_beginTelling 162 = .ok (.aload_n 0, 1) := by decide +kernel
theorem dX2_beginTelling_163 : decode cX2_beginTelling 163 = .ok (.getfield 72, 3) := by decide +kernel
theorem dX2_beginTelling_166 : decode cX2_beginTelling 166 = .ok (.aload_n 0, 1) := by decide +kernel
theorem dX2_beginTelling_167 : decode cX2_beginTelling 167 = .ok (.getfield 51, 3) := by decide +kernel
theorem dX2_beginTelling_170 : decode cX2_beginTelling 170 = .ok (.getfield 148, 3) := by decide +kernel
theorem dX2_beginTelling_173 : decode cX2_beginTelling 173 = .ok (.putfield 275, 3) := by decide +kernel
theorem dX2_beginTelling_176 : decode cX2_beginTelling 176 = .ok (.aload_n 0, 1) := by decide +kernel
theorem dX2_beginTelling_177 : decode cX2_beginTelling 177 = .ok (.getfield 72, 3) := by decide +kernel
theorem dX2_beginTelling_180 : decode cX2_beginTelling 180 = .ok (.iconst 0, 1) := by decide +kernel
theorem dX2_beginTelling_181 : decode cX2_beginTelling 181 = .ok (.putfield 278, 3) := by decide +kernel
theorem dX2_beginTelling_184 : decode cX2_beginTelling 184 = .ok (.aload_n 0, 1) := by decide +kernel
theorem dX2_beginTelling_185 : decode cX2_beginTelling 185 = .ok (.getfield 64, 3) := by decide +kernel
theorem dX2_beginTelling_188 : decode cX2_beginTelling 188 = .ok (.getfield 228, 3) := by decide +kernel
theorem dX2_beginTelling_191 : decode cX2_beginTelling 191 = .ok (.iload 6, 2) := by decide +kernel
theorem dX2_beginTelling_193 : decode cX2_beginTelling 193 = .ok (.iload 5, 2) := by decide +kernel
theorem dX2_beginTelling_195 : decode cX2_beginTelling 195 = .ok (.iastore, 1) := by decide +kernel
theorem dX2_beginTelling_196 : decode cX2_beginTelling 196 = .ok (.aload_n 0, 1) := by decide +kernel
theorem dX2_beginTelling_197 : decode cX2_beginTelling 197 = .ok (.getfield 64, 3) := by decide +kernel
theorem dX2_beginTelling_200 : decode cX2_beginTelling 200 = .ok (.aload_n 0, 1) := by decide +kernel
theorem dX2_beginTelling_201 : decode cX2_beginTelling 201 = .ok (.getfield 64, 3) := by decide +kernel
theorem dX2_beginTelling_204 : decode cX2_beginTelling 204 = .ok (.getfield 235, 3) := by decide +kernel
theorem dX2_beginTelling_207 : decode cX2_beginTelling 207 = .ok (.iload 6, 2) := by decide +kernel
theorem dX2_beginTelling_209 : decode cX2_beginTelling 209 = .ok (.iconst 1, 1) := by decide +kernel
theorem dX2_beginTelling_210 : decode cX2_beginTelling 210 = .ok (.iadd, 1) := by decide +kernel
theorem dX2_beginTelling_211 : decode cX2_beginTelling 211 = .ok (.invokestatic 279, 3) := by decide +kernel
theorem dX2_beginTelling_214 : decode cX2_beginTelling 214 = .ok (.putfield 235, 3) := by decide +kernel
theorem dX2_beginTelling_217 : decode cX2_beginTelling 217 = .ok (.aload_n 0, 1) := by decide +kernel
theorem dX2_beginTelling_218 : decode cX2_beginTelling 218 = .ok (.iconst 0, 1) := by decide +kernel
theorem dX2_beginTelling_219 : decode cX2_beginTelling 219 = .ok (.putfield 282, 3) := by decide +kernel
theorem dX2_beginTelling_222 : decode cX2_beginTelling 222 = .ok (.return_, 1) := by decide +kernel
theorem dX2_readParam_0 : decode cX2_readParam 0 = .ok (.aload_n 0, 1) := by decide +kernel
theorem dX2_readParam_1 : decode cX2_readParam 1 = .ok (.getfield 12, 3) := by decide +kernel
theorem dX2_readParam_4 : decode cX2_readParam 4 = .ok (.invokevirtual 129, 3) := by decide +kernel
theorem dX2_readParam_7 : decode cX2_readParam 7 = .ok (.istore_n 1, 1) := by decide +kernel
theorem dX2_readParam_8 : decode cX2_readParam 8 = .ok (.aload_n 0, 1) := by decide +kernel
theorem dX2_readParam_9 : decode cX2_readParam 9 = .ok (.getfield 12, 3) := by decide +kernel
theorem dX2_readParam_12 : decode cX2_readParam 12 = .ok (.invokevirtual 132, 3) := by decide +kernel
theorem dX2_readParam_15 : decode cX2_readParam 15 = .ok (.lstore_n 2, 1) := by decide +kernel
theorem dX2_readParam_16 : decode cX2_readParam 16 = .ok (.aload_n 0, 1) := by decide +kernel
theorem dX2_readParam_17 : decode cX2_readParam 17 = .ok (.getfield 72, 3) := by decide +kernel
theorem dX2_readParam_20 : decode cX2_readParam 20 = .ok (.getfield 244, 3) := by decide +kernel
theorem dX2_readParam_23 : decode cX2_readParam 23 = .ok (.istore 4, 2) := by decide +kernel
theorem dX2_readParam_25 : decode cX2_readParam 25 = .ok (.aload_n 0, 1) := by decide +kernel
theorem dX2_readParam_26 : decode cX2_readParam 26 = .ok (.getfield 12, 3) := by decide +kernel
theorem dX2_readParam_29 : decode cX2_readParam 29 = .ok (.invokevirtual 85, 3) := by decide +kernel
theorem dX2_readParam_32 : decode cX2_readParam 32 = .ok (.iconst 3, 1) := by decide +kernel
theorem dX2_readParam_33 : decode cX2_readParam 33 = .ok (.if_icmp .eq 15, 3) := by decide +kernel
theorem dX2_readParam_36 : decode cX2_readParam 36 = .ok (.aload_n 0, 1) := by decide +kernel
theorem dX2_readParam_37 : decode cX2_readParam 37 = .ok (.getfield 12, 3) := by decide +kernel
theorem dX2_readParam_40 : decode cX2_readParam 40 = .ok (.iconst 1, 1) := by decide +kernel
theorem dX2_readParam_41 : decode cX2_readParam 41 = .ok (.iload_n 1, 1) := by decide +kernel
theorem dX2_readParam_42 : decode cX2_readParam 42 = .ok (.invokevirtual 136, 3) := by decide +kernel
theorem dX2_readParam_45 : decode cX2_readParam 45 = .ok (.goto 42, 3) := by decide +kernel
theorem dX2_readParam_48 : decode cX2_readParam 48 = .ok (.aload_n 0, 1) := by decide +kernel
theorem dX2_readParam_49 : decode cX2_readParam 49 = .ok (.getfield 21, 3) := by decide +kernel
theorem dX2_readParam_52 : decode cX2_readParam 52 = .ok (.lload_n 2, 1) := by decide +kernel
theorem dX2_readParam_53 : decode cX2_readParam 53 = .ok (.invokevirtual 285, 3) := by decide +kernel
theorem dX2_readParam_56 : decode cX2_readParam 56 = .ok (.iconst (-1), 1) := by decide +kernel
theorem dX2_readParam_57 : decode cX2_readParam 57 = .ok (.if_icmp .eq 15, 3) := by decide +kernel
theorem dX2_readParam_60 : decode cX2_readParam 60 = .ok (.aload_n 0, 1) := by decide +kernel
theorem dX2_readParam_61 : decode cX2_readParam 61 = .ok (.getfield 12, 3) := by decide +kernel
theorem dX2_readParam_64 : decode cX2_readParam 64 = .ok (.iconst 2, 1) := by decide +kernel
theorem dX2_readParam_65 : decode cX2_readParam 65 = .ok (.iload_n 1, 1) := by decide +kernel
theorem dX2_readParam_66 : decode cX2_readParam 66 = .ok (.invokevirtual 136, 3) := by decide +kernel
theorem dX2_readParam_69 : decode cX2_readParam 69 = .ok (.goto 18, 3) := by decide +kernel
theorem dX2_readParam_72 : decode cX2_readParam 72 = .ok (.iload 4, 2) := by decide +kernel
theorem dX2_readParam_74 : decode cX2_readParam 74 = .ok (.iconst 3, 1) := by decide +kernel
theorem dX2_readParam_75 : decode cX2_readParam 75 = .ok (.if_icmp .lt 12, 3) := by decide +kernel
theorem dX2_readParam_78 : decode cX2_readParam 78 = .ok (.aload_n 0, 1) := by decide +kernel
theorem dX2_readParam_79 : decode cX2_readParam 79 = .ok (.getfield 12, 3) := by decide +kernel
theorem dX2_readParam_82 : decode cX2_readParam 82 = .ok (.iconst 4, 1) := by decide +kernel
theorem dX2_readParam_83 : decode cX2_readParam 83 = .ok (.iload_n 1, 1) := by decide +kernel
theorem dX2_readParam_84 : decode cX2_readParam 84 = .ok (.invokevirtual 136, 3) := by decide +kernel
theorem dX2_readParam_87 : decode cX2_readParam 87 = .ok (.aload_n 0, 1) := by decide +kernel
theorem dX2_readParam_88 : decode cX2_readParam 88 = .ok (.getfield 12, 3) := by decide +kernel
theorem dX2_readParam_91 : decode cX2_readParam 91 = .ok (.invokevirtual 157, 3) := by decide +kernel
theorem dX2_readParam_94 : decode cX2_readParam 94 = .ok (.aload_n 0, 1) := by decide +kernel
theorem dX2_readParam_95 : decode cX2_readParam 95 = .ok (.getfield 12, 3) := by decide +kernel
theorem dX2_readParam_98 : decode cX2_readParam 98 = .ok (.bipush 15, 2) := by decide +kernel
theorem dX2_readParam_100 : decode cX2_readParam 100 = .ok (.invokevirtual 89, 3) := by decide +kernel
theorem dX2_readParam_103 : decode cX2_readParam 103 = .ok (.aload_n 0, 1) := by decide +kernel
theorem dX2_readParam_104 : decode cX2_readParam 104 = .ok (.ldc 181, 2) := by decide +kernel
theorem dX2_readParam_106 : decode cX2_readParam 106 = .ok (.invokevirtual 182, 3) := by decide +kernel
theorem dX2_readParam_109 : decode cX2_readParam 109 = .ok (.istore 5, 2) := by decide +kernel
theorem dX2_readParam_111 : decode cX2_readParam 111 = .ok (.aload_n 0, 1) := by decide +kernel
theorem dX2_readParam_112 : decode cX2_readParam 112 = .ok (.getfield 12, 3) := by decide +kernel
theorem dX2_readParam_115 : decode cX2_readParam 115 = .ok (.sipush 200, 3) := by decide +kernel
theorem dX2_readParam_118 : decode cX2_readParam 118 = .ok (.invokevirtual 89, 3) := by decide +kernel
theorem dX2_readParam_121 : decode cX2_readParam 121 = .ok (.aload_n 0, 1) := by decide +kernel
theorem dX2_readParam_122 : decode cX2_readParam 122 = .ok (.iload 5, 2) := by decide +kernel
theorem dX2_readParam_124 : decode cX2_readParam 124 = .ok (.invokevirtual 182, 3) := by decide +kernel
theorem dX2_readParam_127 : decode cX2_readParam 127 = .ok (.istore 6, 2) := by decide +kernel
theorem dX2_readParam_129 : decode cX2_readParam 129 = .ok (.aload_n 0, 1) := by decide +kernel
theorem dX2_readParam_130 : decode cX2_readParam 130 = .ok (.getfield 12, 3) := by decide +kernel
theorem dX2_readParam_133 : decode cX2_readParam 133 = .ok (.getfield 93, 3) := by decide +kernel
theorem dX2_readParam_136 : decode cX2_readParam 136 = .ok (.ifCond .ne 66, 3) := by decide +kernel
theorem dX2_readParam_139 : decode cX2_readParam 139 = .ok (.iload 4, 2) := by decide +kernel
theorem dX2_readParam_141 : decode cX2_readParam 141 = .ok (.iconst 3, 1) := by decide +kernel
theorem dX2_readParam_142 : decode cX2_readParam 142 = .ok (.if_icmp .ge 60, 3) := by decide +kernel
theorem dX2_readParam_145 : decode cX2_readParam 145 = .ok (.aload_n 0, 1) := by decide +kernel
theorem dX2_readParam_146 : decode cX2_readParam 146 = .ok (.getfield 21, 3) := by decide +kernel
theorem dX2_readParam_149 : decode cX2_readParam 149 = .ok (.getfield 288, 3) := by decide +kernel
theorem dX2_readParam_152 : decode cX2_readParam 152 = .ok (.iload 4, 2) := by decide +kernel
theorem dX2_readParam_154 : decode cX2_readParam 154 = .ok (.lload_n 2, 1) := by decide +kernel
theorem dX2_readParam_155 : decode cX2_readParam 155 = .ok (.lastore, 1) := by decide +kernel
theorem dX2_readParam_156 : decode cX2_readParam 156 = .ok (.aload_n 0, 1) := by decide +kernel
theorem dX2_readParam_157 : decode cX2_readParam 157 = .ok (.getfield 21, 3) := by decide +kernel
theorem dX2_readParam_160 : decode cX2_readParam 160 = .ok (.iload 4, 2) := by decide +kernel
theorem dX2_readParam_162 : decode cX2_readParam 162 = .ok (.iconst 1, 1) := by decide +kernel
theorem dX2_readParam_163 : decode cX2_readParam 163 = .ok (.iadd, 1) := by decide +kernel
theorem dX2_readParam_164 : decode cX2_readParam 164 = .ok (.putfield 291, 3) := by decide +kernel
theorem dX2_readParam_167 : decode cX2_readParam 167 = .ok (.aload_n 0, 1) := by decide +kernel
theorem dX2_readParam_168 : decode cX2_readParam 168 = .ok (.getfield 72, 3) := by decide +kernel
theorem dX2_readParam_171 : decode cX2_readParam 171 = .ok (.getfield 294, 3) := by decide +kernel
theorem dX2_readParam_174 : decode cX2_readParam 174 = .ok (.iload 4, 2) := by decide +kernel
theorem dX2_readParam_176 : decode cX2_readParam 176 = .ok (.iload 5, 2) := by decide +kernel
theorem dX2_readParam_178 : decode cX2_readParam 178 = .ok (.iastore, 1) := by decide +kernel
theorem dX2_readParam_179 : decode cX2_readParam 179 = .ok (.aload_n 0, 1) := by decide +kernel
theorem dX2_readParam_180 : decode cX2_readParam 180 = .ok (.getfield 72, 3) := by decide +kernel
theorem dX2_readParam_183 : decode cX2_readParam 183 = .ok (.getfield 297, 3) := by decide +kernel
theorem dX2_readParam_186 : decode cX2_readParam 186 = .ok (.iload 4, 2) := by decide +kernel
theorem dX2_readParam_188 : decode cX2_readParam 188 = .ok (.iload 6, 2) := by decide +kernel
theorem dX2_readParam_190 : decode cX2_readParam 190 = .ok (.iastore, 1) := by decide +kernel
theorem dX2_readParam_191 : decode cX2_readParam 191 = .ok (.aload_n 0, 1) := by decide +kernel
theorem dX2_readParam_192 : decode cX2_readParam 192 = .ok (.getfield 72, 3) := by decide +kernel
theorem dX2_readParam_195 : decode cX2_readParam 195 = .ok (.iload 4, 2) := by decide +kernel
theorem dX2_readParam_197 : decode cX2_readParam 197 = .ok (.iconst 1, 1) := by decide +kernel
theorem dX2_readParam_198 : decode cX2_readParam 198 = .ok (.iadd, 1) := by decide +kernel
theorem dX2_readParam_199 : decode cX2_readParam 199 = .ok (.putfield 244, 3) := by decide +kernel
theorem dX2_readParam_202 : decode cX2_readParam 202 = .ok (.return_, 1) := by decide +kernel
theorem dX2_atMark_0 : decode cX2_atMark 0 = .ok (.aload_n 0, 1) := by decide +kernel
theorem dX2_atMark_1 : decode cX2_atMark 1 = .ok (.getfield 12, 3) := by decide +kernel
theorem dX2_atMark_4 : decode cX2_atMark 4 = .ok (.invokevirtual 85, 3) := by decide +kernel
theorem dX2_atMark_7 : decode cX2_atMark 7 = .ok (.istore_n 1, 1) := by decide +kernel
theorem dX2_atMark_8 : decode cX2_atMark 8 = .ok (.iload_n 1, 1) := by decide +kernel
theorem dX2_atMark_9 : decode cX2_atMark 9 = .ok (.bipush 16, 2) := by decide +kernel
theorem dX2_atMark_11 : decode cX2_atMark 11 = .ok (.if_icmp .eq 27, 3) := by decide +kernel
theorem dX2_atMark_14 : decode cX2_atMark 14 = .ok (.iload_n 1, 1) := by decide +kernel
theorem dX2_atMark_15 : decode cX2_atMark 15 = .ok (.bipush 17, 2) := by decide +kernel
theorem dX2_atMark_17 : decode cX2_atMark 17 = .ok (.if_icmp .eq 21, 3) := by decide +kernel
theorem dX2_atMark_20 : decode cX2_atMark 20 = .ok (.iload_n 1, 1) := by decide +kernel
theorem dX2_atMark_21 : decode cX2_atMark 21 = .ok (.bipush 18, 2) := by decide +kernel
theorem dX2_atMark_23 : decode cX2_atMark 23 = .ok (.if_icmp .eq 15, 3) := by decide +kernel
theorem dX2_atMark_26 : decode cX2_atMark 26 = .ok (.iload_n 1, 1) := by decide +kernel
theorem dX2_atMark_27 : decode cX2_atMark 27 = .ok (.bipush 20, 2) := by decide +kernel
theorem dX2_atMark_29 : decode cX2_atMark 29 = .ok (.if_icmp .eq 9, 3) := by decide +kernel
theorem dX2_atMark_32 : decode cX2_atMark 32 = .ok (.iload_n 1, 1) := by decide +kernel
theorem dX2_atMark_33 : decode cX2_atMark 33 = .ok (.bipush 21, 2) := by decide +kernel
theorem dX2_atMark_35 : decode cX2_atMark 35 = .ok (.if_icmp .ne 7, 3) := by decide +kernel
theorem dX2_atMark_38 : decode cX2_atMark 38 = .ok (.iconst 1, 1) := by decide +kernel
theorem dX2_atMark_39 : decode cX2_atMark 39 = .ok (.goto 4, 3) := by decide +kernel
theorem dX2_atMark_42 : decode cX2_atMark 42 = .ok (.iconst 0, 1) := by decide +kernel
theorem dX2_atMark_43 : decode cX2_atMark 43 = .ok (.ireturn, 1) := by decide +kernel
theorem dX2_readThrownWord_0 : decode cX2_readThrownWord 0 = .ok (.aload_n 0, 1) := by decide +kernel
theorem dX2_readThrownWord_1 : decode cX2_readThrownWord 1 = .ok (.getfield 51, 3) := by decide +kernel
theorem dX2_readThrownWord_4 : decode cX2_readThrownWord 4 = .ok (.iconst 4, 1) := by decide +kernel
theorem dX2_readThrownWord_5 : decode cX2_readThrownWord 5 = .ok (.aload_n 0, 1) := by decide +kernel
theorem dX2_readThrownWord_6 : decode cX2_readThrownWord 6 = .ok (.getfield 21, 3) := by decide +kernel
theorem dX2_readThrownWord_9 : decode cX2_readThrownWord 9 = .ok (.getfield 154, 3) := by decide +kernel
theorem dX2_readThrownWord_12 : decode cX2_readThrownWord 12 = .ok (.aload_n 0, 1) := by decide +kernel
theorem dX2_readThrownWord_13 : decode cX2_readThrownWord 13 = .ok (.getfield 12, 3) := by decide +kernel
theorem dX2_readThrownWord_16 : decode cX2_readThrownWord 16 = .ok (.invokevirtual 129, 3) := by decide +kernel
theorem dX2_readThrownWord_19 : decode cX2_readThrownWord 19 = .ok (.invokevirtual 201, 3) := by decide +kernel
theorem dX2_readThrownWord_22 : decode cX2_readThrownWord 22 = .ok (.istore_n 1, 1) := by decide +kernel
theorem dX2_readThrownWord_23 : decode cX2_readThrownWord 23 = .ok (.aload_n 0, 1) := by decide +kernel
theorem dX2_readThrownWord_24 : decode cX2_readThrownWord 24 = .ok (.getfield 51, 3) := by decide +kernel
theorem dX2_readThrownWord_27 : decode cX2_readThrownWord 27 = .ok (.getfield 306, 3) := by decide +kernel
theorem dX2_readThrownWord_30 : decode cX2_readThrownWord 30 = .ok (.iload_n 1, 1) := by decide +kernel
theorem dX2_readThrownWord_31 : decode cX2_readThrownWord 31 = .ok (.aload_n 0, 1) := by decide +kernel
theorem dX2_readThrownWord_32 : decode cX2_readThrownWord 32 = .ok (.getfield 12, 3) := by decide +kernel
theorem dX2_readThrownWord_35 : decode cX2_readThrownWord 35 = .ok (.invokevirtual 132, 3) := by decide +kernel
theorem dX2_readThrownWord_38 : decode cX2_readThrownWord 38 = .ok (.lastore, 1) := by decide +kernel
theorem dX2_readThrownWord_39 : decode cX2_readThrownWord 39 = .ok (.aload_n 0, 1) := by decide +kernel
theorem dX2_readThrownWord_40 : decode cX2_readThrownWord 40 = .ok (.getfield 12, 3) := by decide +kernel
theorem dX2_readThrownWord_43 : decode cX2_readThrownWord 43 = .ok (.iconst 3, 1) := by decide +kernel
theorem dX2_readThrownWord_44 : decode cX2_readThrownWord 44 = .ok (.invokevirtual 89, 3) := by decide +kernel
theorem dX2_readThrownWord_47 : decode cX2_readThrownWord 47 = .ok (.aload_n 0, 1) := by decide +kernel
theorem dX2_readThrownWord_48 : decode cX2_readThrownWord 48 = .ok (.getfield 12, 3) := by decide +kernel
theorem dX2_readThrownWord_51 : decode cX2_readThrownWord 51 = .ok (.invokevirtual 85, 3) := by decide +kernel
theorem dX2_readThrownWord_54 : decode cX2_readThrownWord 54 = .ok (.bipush 19, 2) := by decide +kernel
theorem dX2_readThrownWord_56 : decode cX2_readThrownWord 56 = .ok (.if_icmp .eq 15, 3) := by decide +kernel
theorem dX2_readThrownWord_59 : decode cX2_readThrownWord 59 = .ok (.aload_n 0, 1) := by decide +kernel
theorem dX2_readThrownWord_60 : decode cX2_readThrownWord 60 = .ok (.getfield 51, 3) := by decide +kernel
theorem dX2_readThrownWord_63 : decode cX2_readThrownWord 63 = .ok (.getfield 309, 3) := by decide +kernel
theorem dX2_readThrownWord_66 : decode cX2_readThrownWord 66 = .ok (.iload_n 1, 1) := by decide +kernel
theorem dX2_readThrownWord_67 : decode cX2_readThrownWord 67 = .ok (.iconst (-1), 1) := by decide +kernel
theorem dX2_readThrownWord_68 : decode cX2_readThrownWord 68 = .ok (.iastore, 1) := by decide +kernel
theorem dX2_readThrownWord_69 : decode cX2_readThrownWord 69 = .ok (.iconst 0, 1) := by decide +kernel
theorem dX2_readThrownWord_70 : decode cX2_readThrownWord 70 = .ok (.ireturn, 1) := by decide +kernel
theorem dX2_readThrownWord_71 : decode cX2_readThrownWord 71 = .ok (.aload_n 0, 1) := by decide +kernel
theorem dX2_readThrownWord_72 : decode cX2_readThrownWord 72 = .ok (.getfield 12, 3) := by decide +kernel
theorem dX2_readThrownWord_75 : decode cX2_readThrownWord 75 = .ok (.invokevirtual 157, 3) := by decide +kernel
theorem dX2_readThrownWord_78 : decode cX2_readThrownWord 78 = .ok (.aload_n 0, 1) := by decide +kernel
theorem dX2_readThrownWord_79 : decode cX2_readThrownWord 79 = .ok (.getfield 51, 3) := by decide +kernel
theorem dX2_readThrownWord_82 : decode cX2_readThrownWord 82 = .ok (.getfield 312, 3) := by decide +kernel
theorem dX2_readThrownWord_85 : decode cX2_readThrownWord 85 = .ok (.iload_n 1, 1) := by decide +kernel
theorem dX2_readThrownWord_86 : decode cX2_readThrownWord 86 = .ok (.aload_n 0, 1) := by decide +kernel
theorem dX2_readThrownWord_87 : decode cX2_readThrownWord 87 = .ok (.getfield 12, 3) := by decide +kernel
theorem dX2_readThrownWord_90 : decode cX2_readThrownWord 90 = .ok (.invokevirtual 129, 3) := by decide +kernel
theorem dX2_readThrownWord_93 : decode cX2_readThrownWord 93 = .ok (.iastore, 1) := by decide +kernel
theorem dX2_readThrownWord_94 : decode cX2_readThrownWord 94 = .ok (.iconst 1, 1) := by decide +kernel
theorem dX2_readThrownWord_95 : decode cX2_readThrownWord 95 = .ok (.ireturn, 1) := by decide +kernel
theorem dX2_readOnly_0 : decode cX2_readOnly 0 = .ok (.aload_n 0, 1) := by decide +kernel
theorem dX2_readOnly_1 : decode cX2_readOnly 1 = .ok (.getfield 51, 3) := by decide +kernel
theorem dX2_readOnly_4 : decode cX2_readOnly 4 = .ok (.iconst 5, 1) := by decide +kernel
theorem dX2_readOnly_5 : decode cX2_readOnly 5 = .ok (.aload_n 0, 1) := by decide +kernel
theorem dX2_readOnly_6 : decode cX2_readOnly 6 = .ok (.getfield 21, 3) := by decide +kernel
theorem dX2_readOnly_9 : decode cX2_readOnly 9 = .ok (.getfield 154, 3) := by decide +kernel
theorem dX2_readOnly_12 : decode cX2_readOnly 12 = .ok (.aload_n 0, 1) := by decide +kernel
theorem dX2_readOnly_13 : decode cX2_readOnly 13 = .ok (.getfield 12, 3) := by decide +kernel
theorem dX2_readOnly_16 : decode cX2_readOnly 16 = .ok (.invokevirtual 129, 3) := by decide +kernel
theorem dX2_readOnly_19 : decode cX2_readOnly 19 = .ok (.invokevirtual 201, 3) := by decide +kernel
theorem dX2_readOnly_22 : decode cX2_readOnly 22 = .ok (.istore_n 1, 1) := by decide +kernel
theorem dX2_readOnly_23 : decode cX2_readOnly 23 = .ok (.iconst 1, 1) := by decide +kernel
theorem dX2_readOnly_24 : decode cX2_readOnly 24 = .ok (.istore_n 2, 1) := by decide +kernel
theorem dX2_readOnly_25 : decode cX2_readOnly 25 = .ok (.iconst 0, 1) := by decide +kernel
theorem dX2_readOnly_26 : decode cX2_readOnly 26 = .ok (.istore_n 3, 1) := by decide +kernel
theorem dX2_readOnly_27 : decode cX2_readOnly 27 = .ok (.iload_n 3, 1) := by decide +kernel
theorem dX2_readOnly_28 : decode cX2_readOnly 28 = .ok (.sipush 1200, 3) := by decide +kernel
theorem dX2_readOnly_31 : decode cX2_readOnly 31 = .ok (.if_icmp .gt 134, 3) := by decide +kernel
theorem dX2_readOnly_34 : decode cX2_readOnly 34 = .ok (.iload_n 2, 1) := by decide +kernel
theorem dX2_readOnly_35 : decode cX2_readOnly 35 = .ok (.ifCond .eq 130, 3) := by decide +kernel
theorem dX2_readOnly_38 : decode cX2_readOnly 38 = .ok (.aload_n 0, 1) := by decide +kernel
theorem dX2_readOnly_39 : decode cX2_readOnly 39 = .ok (.getfield 64, 3) := by decide +kernel
theorem dX2_readOnly_42 : decode cX2_readOnly 42 = .ok (.aload_n 0, 1) := by decide +kernel
theorem dX2_readOnly_43 : decode cX2_readOnly 43 = .ok (.getfield 12, 3) := by decide +kernel
theorem dX2_readOnly_46 : decode cX2_readOnly 46 = .ok (.invokevirtual 132, 3) := by decide +kernel
theorem dX2_readOnly_49 : decode cX2_readOnly 49 = .ok (.invokevirtual 167, 3) := by decide +kernel
theorem dX2_readOnly_52 : decode cX2_readOnly 52 = .ok (.istore 4, 2) := by decide +kernel
theorem dX2_readOnly_54 : decode cX2_readOnly 54 = .ok (.aload_n 0, 1) := by decide +kernel
theorem dX2_readOnly_55 : decode cX2_readOnly 55 = .ok (.getfield 12, 3) := by decide +kernel
theorem dX2_readOnly_58 : decode cX2_readOnly 58 = .ok (.invokevirtual 85, 3) := by decide +kernel
theorem dX2_readOnly_61 : decode cX2_readOnly 61 = .ok (.iconst 3, 1) := by decide +kernel
theorem dX2_readOnly_62 : decode cX2_readOnly 62 = .ok (.if_icmp .eq 21, 3) := by decide +kernel
theorem dX2_readOnly_65 : decode cX2_readOnly 65 = .ok (.aload_n 0, 1) := by decide +kernel
theorem dX2_readOnly_66 : decode cX2_readOnly 66 = .ok (.getfield 12, 3) := by decide +kernel
theorem dX2_readOnly_69 : decode cX2_readOnly 69 = .ok (.iconst 1, 1) := by decide +kernel
theorem dX2_readOnly_70 : decode cX2_readOnly 70 = .ok (.aload_n 0, 1) := by decide +kernel
theorem dX2_readOnly_71 : decode cX2_readOnly 71 = .ok (.getfield 12, 3) := by decide +kernel
theorem dX2_readOnly_74 : decode cX2_readOnly 74 = .ok (.invokevirtual 129, 3) := by decide +kernel
theorem dX2_readOnly_77 : decode cX2_readOnly 77 = .ok (.invokevirtual 136, 3) := by decide +kernel
theorem dX2_readOnly_80 : decode cX2_readOnly 80 = .ok (.goto 43, 3) := by decide +kernel
theorem dX2_readOnly_83 : decode cX2_readOnly 83 = .ok (.iload 4, 2) := by decide +kernel
theorem dX2_readOnly_85 : decode cX2_readOnly 85 = .ok (.iconst (-1), 1) := by decide +kernel
theorem dX2_readOnly_86 : decode cX2_readOnly 86 = .ok (.if_icmp .ne 21, 3) := by decide +kernel
theorem dX2_readOnly_89 : decode cX2_readOnly 89 = .ok (.aload_n 0, 1) := by decide +kernel
theorem dX2_readOnly_90 : decode cX2_readOnly 90 = .ok (.getfield 12, 3) := by decide +kernel
theorem dX2_readOnly_93 : decode cX2_readOnly 93 = .ok (.iconst 2, 1) := by decide +kernel
theorem dX2_readOnly_94 : decode cX2_readOnly 94 = .ok (.aload_n 0, 1) := by decide +kernel
theorem dX2_readOnly_95 : decode cX2_readOnly 95 = .ok (.getfield 12, 3) := by decide +kernel
theorem dX2_readOnly_98 : decode cX2_readOnly 98 = .ok (.invokevirtual 129, 3) := by decide +kernel
theorem dX2_readOnly_101 : decode cX2_readOnly 101 = .ok (.invokevirtual 136, 3) := by decide +kernel
theorem dX2_readOnly_104 : decode cX2_readOnly 104 = .ok (.goto 19, 3) := by decide +kernel
theorem dX2_readOnly_107 : decode cX2_readOnly 107 = .ok (.aload_n 0, 1) := by decide +kernel
theorem dX2_readOnly_108 : decode cX2_readOnly 108 = .ok (.getfield 51, 3) := by decide +kernel
theorem dX2_readOnly_111 : decode cX2_readOnly 111 = .ok (.getfield 315, 3) := by decide +kernel
theorem dX2_readOnly_114 : decode cX2_readOnly 114 = .ok (.iload_n 1, 1) := by decide +kernel
theorem dX2_readOnly_115 : decode cX2_readOnly 115 = .ok (.dup2, 1) := by decide +kernel
theorem dX2_readOnly_116 : decode cX2_readOnly 116 = .ok (.iaload, 1) := by decide +kernel
theorem dX2_readOnly_117 : decode cX2_readOnly 117 = .ok (.iconst 1, 1) := by decide +kernel
theorem dX2_readOnly_118 : decode cX2_readOnly 118 = .ok (.iload 4, 2) := by decide +kernel
theorem dX2_readOnly_120 : decode cX2_readOnly 120 = .ok (.ishl, 1) := by decide +kernel
theorem dX2_readOnly_121 : decode cX2_readOnly 121 = .ok (.ior, 1) := by decide +kernel
theorem dX2_readOnly_122 : decode cX2_readOnly 122 = .ok (.iastore, 1) := by decide +kernel
theorem dX2_readOnly_123 : decode cX2_readOnly 123 = .ok (.aload_n 0, 1) := by decide +kernel
theorem dX2_readOnly_124 : decode cX2_readOnly 124 = .ok (.getfield 12, 3) := by decide +kernel
theorem dX2_readOnly_127 : decode cX2_readOnly 127 = .ok (.invokevirtual 157, 3) := by decide +kernel
theorem dX2_readOnly_130 : decode cX2_readOnly 130 = .ok (.aload_n 0, 1) := by decide +kernel
theorem dX2_readOnly_131 : decode cX2_readOnly 131 = .ok (.getfield 12, 3) := by decide +kernel
theorem dX2_readOnly_134 : decode cX2_readOnly 134 = .ok (.invokevirtual 85, 3) := by decide +kernel
theorem dX2_readOnly_137 : decode cX2_readOnly 137 = .ok (.bipush 44, 2) := by decide +kernel
theorem dX2_readOnly_139 : decode cX2_readOnly 139 = .ok (.if_icmp .ne 7, 3) := by decide +kernel
theorem dX2_readOnly_142 : decode cX2_readOnly 142 = .ok (.iconst 1, 1) := by decide +kernel
theorem dX2_readOnly_143 : decode cX2_readOnly 143 = .ok (.goto 4, 3) := by decide +kernel
theorem dX2_readOnly_146 : decode cX2_readOnly 146 = .ok (.iconst 0, 1) := by decide +kernel
theorem dX2_readOnly_147 : decode cX2_readOnly 147 = .ok (.istore_n 2, 1) := by decide +kernel
theorem dX2_readOnly_148 : decode cX2_readOnly 148 = .ok (.iload_n 2, 1) := by decide +kernel
theorem dX2_readOnly_149 : decode cX2_readOnly 149 = .ok (.ifCond .eq 10, 3) := by decide +kernel
theorem dX2_readOnly_152 : decode cX2_readOnly 152 = .ok (.aload_n 0, 1) := by decide +kernel
theorem dX2_readOnly_153 : decode cX2_readOnly 153 = .ok (.getfield 12, 3) := by decide +kernel
theorem dX2_readOnly_156 : decode cX2_readOnly 156 = .ok (.invokevirtual 157, 3) := by decide +kernel
theorem dX2_readOnly_159 : decode cX2_readOnly 159 = .ok (.iinc 3 1, 3) := by decide +kernel
theorem dX2_readOnly_162 : decode cX2_readOnly 162 = .ok (.goto (-135), 3) := by decide +kernel
theorem dX2_readOnly_165 : decode cX2_readOnly 165 = .ok (.return_, 1) := by decide +kernel
theorem dX2_openBody_0 : decode cX2_openBody 0 = .ok (.aload_n 0, 1) := by decide +kernel
theorem dX2_openBody_1 : decode cX2_openBody 1 = .ok (.getfield 12, 3) := by decide +kernel
theorem dX2_openBody_4 : decode cX2_openBody 4 = .ok (.invokevirtual 129, 3) := by decide +kernel
theorem dX2_openBody_7 : decode cX2_openBody 7 = .ok (.istore_n 1, 1) := by decide +kernel
theorem dX2_openBody_8 : decode cX2_openBody 8 = .ok (.aload_n 0, 1) := by decide +kernel
theorem dX2_openBody_9 : decode cX2_openBody 9 = .ok (.iconst 0, 1) := by decide +kernel
theorem dX2_openBody_10 : decode cX2_openBody 10 = .ok (.putfield 81, 3) := by decide +kernel
theorem dX2_openBody_13 : decode cX2_openBody 13 = .ok (.aload_n 0, 1) := by decide +kernel
theorem dX2_openBody_14 : decode cX2_openBody 14 = .ok (.getfield 72, 3) := by decide +kernel
theorem dX2_openBody_17 : decode cX2_openBody 17 = .ok (.aload_n 0, 1) := by decide +kernel
theorem dX2_openBody_18 : decode cX2_openBody 18 = .ok (.getfield 51, 3) := by decide +kernel
theorem dX2_openBody_21 : decode cX2_openBody 21 = .ok (.getfield 318, 3) := by decide +kernel
theorem dX2_openBody_24 : decode cX2_openBody 24 = .ok (.putfield 265, 3) := by decide +kernel
theorem dX2_openBody_27 : decode cX2_openBody 27 = .ok (.aload_n 0, 1) := by decide +kernel
theorem dX2_openBody_28 : decode cX2_openBody 28 = .ok (.iconst 0, 1) := by decide +kernel
theorem dX2_openBody_29 : decode cX2_openBody 29 = .ok (.iconst (-1), 1) := by decide +kernel
theorem dX2_openBody_30 : decode cX2_openBody 30 = .ok (.iconst (-1), 1) := by decide +kernel
theorem dX2_openBody_31 : decode cX2_openBody 31 = .ok (.invokevirtual 321, 3) := by decide +kernel
theorem dX2_openBody_34 : decode cX2_openBody 34 = .ok (.aload_n 0, 1) := by decide +kernel
theorem dX2_openBody_35 : decode cX2_openBody 35 = .ok (.getfield 72, 3) := by decide +kernel
theorem dX2_openBody_38 : decode cX2_openBody 38 = .ok (.getfield 262, 3) := by decide +kernel
theorem dX2_openBody_41 : decode cX2_openBody 41 = .ok (.istore_n 2, 1) := by decide +kernel
theorem dX2_openBody_42 : decode cX2_openBody 42 = .ok (.iload_n 2, 1) := by decide +kernel
theorem dX2_openBody_43 : decode cX2_openBody 43 = .ok (.ifCond .lt 48, 3) := by decide +kernel
theorem dX2_openBody_46 : decode cX2_openBody 46 = .ok (.iload_n 2, 1) := by decide +kernel
theorem dX2_openBody_47 : decode cX2_openBody 47 = .ok (.aload_n 0, 1) := by decide +kernel
theorem dX2_openBody_48 : decode cX2_openBody 48 = .ok (.getfield 51, 3) := by decide +kernel
theorem dX2_openBody_51 : decode cX2_openBody 51 = .ok (.getfield 247, 3) := by decide +kernel
theorem dX2_openBody_54 : decode cX2_openBody 54 = .ok (.if_icmp .ge 37, 3) := by decide +kernel
theorem dX2_openBody_57 : decode cX2_openBody 57 = .ok (.aload_n 0, 1) := by decide +kernel
theorem dX2_openBody_58 : decode cX2_openBody 58 = .ok (.getfield 51, 3) := by decide +kernel
theorem dX2_openBody_61 : decode cX2_openBody 61 = .ok (.getfield 68, 3) := by decide +kernel
theorem dX2_openBody_64 : decode cX2_openBody 64 = .ok (.iload_n 2, 1) := by decide +kernel
theorem dX2_openBody_65 : decode cX2_openBody 65 = .ok (.aaload, 1) := by decide +kernel
theorem dX2_openBody_66 : decode cX2_openBody 66 = .ok (.getfield 259, 3) := by decide +kernel
theorem dX2_openBody_69 : decode cX2_openBody 69 = .ok (.ifCond .eq 22, 3) := by decide +kernel
theorem dX2_openBody_72 : decode cX2_openBody 72 = .ok (.aload_n 0, 1) := by decide +kernel
theorem dX2_openBody_73 : decode cX2_openBody 73 = .ok (.getfield 72, 3) := by decide +kernel
theorem dX2_openBody_76 : decode cX2_openBody 76 = .ok (.getfield 259, 3) := by decide +kernel
theorem dX2_openBody_79 : decode cX2_openBody 79 = .ok (.ifCond .ne 12, 3) := by decide +kernel
theorem dX2_openBody_82 : decode cX2_openBody 82 = .ok (.aload_n 0, 1) := by decide +kernel
theorem dX2_openBody_83 : decode cX2_openBody 83 = .ok (.getfield 12, 3) := by decide +kernel
theorem dX2_openBody_86 : decode cX2_openBody 86 = .ok (.iconst 5, 1) := by decide +kernel
theorem dX2_openBody_87 : decode cX2_openBody 87 = .ok (.iload_n 1, 1) := by decide +kernel
theorem dX2_openBody_88 : decode cX2_openBody 88 = .ok (.invokevirtual 136, 3) := by decide +kernel
theorem dX2_openBody_91 : decode cX2_openBody 91 = .ok (.return_, 1) := by decide +kernel
theorem dX2_openBlock_0 : decode cX2_openBlock 0 = .ok (.aload_n 0, 1) := by decide +kernel
theorem dX2_openBlock_1 : decode cX2_openBlock 1 = .ok (.getfield 12, 3) := by decide +kernel
theorem dX2_openBlock_4 : decode cX2_openBlock 4 = .ok (.invokevirtual 85, 3) := by decide +kernel
theorem dX2_openBlock_7 : decode cX2_openBlock 7 = .ok (.bipush 123, 2) := by decide +kernel
theorem dX2_openBlock_9 : decode cX2_openBlock 9 = .ok (.if_icmp .eq 21, 3) := by decide +kernel
theorem dX2_openBlock_12 : decode cX2_openBlock 12 = .ok (.aload_n 0, 1) := by decide +kernel
theorem dX2_openBlock_13 : decode cX2_openBlock 13 = .ok (.getfield 12, 3) := by decide +kernel
theorem dX2_openBlock_16 : decode cX2_openBlock 16 = .ok (.iconst 1, 1) := by decide +kernel
theorem dX2_openBlock_17 : decode cX2_openBlock 17 = .ok (.aload_n 0, 1) := by decide +kernel
theorem dX2_openBlock_18 : decode cX2_openBlock 18 = .ok (.getfield 12, 3) := by decide +kernel
theorem dX2_openBlock_21 : decode cX2_openBlock 21 = .ok (.invokevirtual 129, 3) := by decide +kernel
theorem dX2_openBlock_24 : decode cX2_openBlock 24 = .ok (.invokevirtual 136, 3) := by decide +kernel
theorem dX2_openBlock_27 : decode cX2_openBlock 27 = .ok (.goto 93, 3) := by decide +kernel
theorem dX2_openBlock_30 : decode cX2_openBlock 30 = .ok (.aload_n 0, 1) := by decide +kernel
theorem dX2_openBlock_31 : decode cX2_openBlock 31 = .ok (.getfield 81, 3) := by decide +kernel
theorem dX2_openBlock_34 : decode cX2_openBlock 34 = .ok (.bipush 8, 2) := by decide +kernel
theorem dX2_openBlock_36 : decode cX2_openBlock 36 = .ok (.if_icmp .lt 21, 3) := by decide +kernel
theorem dX2_openBlock_39 : decode cX2_openBlock 39 = .ok (.aload_n 0, 1) := by decide +kernel
theorem dX2_openBlock_40 : decode cX2_openBlock 40 = .ok (.getfield 12, 3) := by decide +kernel
theorem dX2_openBlock_43 : decode cX2_openBlock 43 = .ok (.iconst 4, 1) := by decide +kernel
theorem dX2_openBlock_44 : decode cX2_openBlock 44 = .ok (.aload_n 0, 1) := by decide +kernel
theorem dX2_openBlock_45 : decode cX2_openBlock 45 = .ok (.getfield 12, 3) := by decide +kernel
theorem dX2_openBlock_48 : decode cX2_openBlock 48 = .ok (.invokevirtual 129, 3) := by decide +kernel
theorem dX2_openBlock_51 : decode cX2_openBlock 51 = .ok (.invokevirtual 136, 3) := by decide +kernel
theorem dX2_openBlock_54 : decode cX2_openBlock 54 = .ok (.goto 66, 3) := by decide +kernel
theorem dX2_openBlock_57 : decode cX2_openBlock 57 = .ok (.aload_n 0, 1) := by decide +kernel
theorem dX2_openBlock_58 : decode cX2_openBlock 58 = .ok (.getfield 34, 3) := by decide +kernel
theorem dX2_openBlock_61 : decode cX2_openBlock 61 = .ok (.aload_n 0, 1) := by decide +kernel
theorem dX2_openBlock_62 : decode cX2_openBlock 62 = .ok (.getfield 81, 3) := by decide +kernel
theorem dX2_openBlock_65 : decode cX2_openBlock 65 = .ok (.iload_n 1, 1) := by decide +kernel
theorem dX2_openBlock_66 : decode cX2_openBlock 66 = .ok (.iastore, 1) := by decide +kernel
theorem dX2_openBlock_67 : decode cX2_openBlock 67 = .ok (.aload_n 0, 1) := by decide +kernel
theorem dX2_openBlock_68 : decode cX2_openBlock 68 = .ok (.getfield 38, 3) := by decide +kernel
theorem dX2_openBlock_71 : decode cX2_openBlock 71 = .ok (.aload_n 0, 1) := by decide +kernel
theorem dX2_openBlock_72 : decode cX2_openBlock 72 = .ok (.getfield 81, 3) := by decide +kernel
theorem dX2_openBlock_75 : decode cX2_openBlock 75 = .ok (.iload_n 2, 1) := by decide +kernel
theorem dX2_openBlock_76 : decode cX2_openBlock 76 = .ok (.iastore, 1) := by decide +kernel
theorem dX2_openBlock_77 : decode cX2_openBlock 77 = .ok (.aload_n 0, 1) := by decide +kernel
theorem dX2_openBlock_78 : decode cX2_openBlock 78 = .ok (.getfield 41, 3) := by decide +kernel
theorem dX2_openBlock_81 : decode cX2_openBlock 81 = .ok (.aload_n 0, 1) := by decide +kernel
theorem dX2_openBlock_82 : decode cX2_openBlock 82 = .ok (.getfield 81, 3) := by decide +kernel
theorem dX2_openBlock_85 : decode cX2_openBlock 85 = .ok (.iload_n 3, 1) := by decide +kernel
theorem dX2_openBlock_86 : decode cX2_openBlock 86 = .ok (.iastore, 1) := by decide +kernel
theorem dX2_openBlock_87 : decode cX2_openBlock 87 = .ok (.aload_n 0, 1) := by decide +kernel
theorem dX2_openBlock_88 : decode cX2_openBlock 88 = .ok (.getfield 44, 3) := by decide +kernel
theorem dX2_openBlock_91 : decode cX2_openBlock 91 = .ok (.aload_n 0, 1) := by decide +kernel
theorem dX2_openBlock_92 : decode cX2_openBlock 92 = .ok (.getfield 81, 3) := by decide +kernel
theorem dX2_openBlock_95 : decode cX2_openBlock 95 = .ok (.aload_n 0, 1) := by decide +kernel
theorem dX2_openBlock_96 : decode cX2_openBlock 96 = .ok (.getfield 21, 3) := by decide +kernel
theorem dX2_openBlock_99 : decode cX2_openBlock 99 = .ok (.getfield 325, 3) := by decide +kernel
theorem dX2_openBlock_102 : decode cX2_openBlock 102 = .ok (.iastore, 1) := by decide +kernel
theorem dX2_openBlock_103 : decode cX2_openBlock 103 = .ok (.aload_n 0, 1) := by decide +kernel
theorem dX2_openBlock_104 : decode cX2_openBlock 104 = .ok (.dup, 1) := by decide +kernel
theorem dX2_openBlock_105 : decode cX2_openBlock 105 = .ok (.getfield 81, 3) := by decide +kernel
theorem dX2_openBlock_108 : decode cX2_openBlock 108 = .ok (.iconst 1, 1) := by decide +kernel
theorem dX2_openBlock_109 : decode cX2_openBlock 109 = .ok (.iadd, 1) := by decide +kernel
theorem dX2_openBlock_110 : decode cX2_openBlock 110 = .ok (.putfield 81, 3) := by decide +kernel
theorem dX2_openBlock_113 : decode cX2_openBlock 113 = .ok (.aload_n 0, 1) := by decide +kernel
theorem dX2_openBlock_114 : decode cX2_openBlock 114 = .ok (.getfield 12, 3) := by decide +kernel
theorem dX2_openBlock_117 : decode cX2_openBlock 117 = .ok (.invokevirtual 157, 3) := by decide +kernel
theorem dX2_openBlock_120 : decode cX2_openBlock 120 = .ok (.return_, 1) := by decide +kernel
theorem dX2_closeBlock_0 : decode cX2_closeBlock 0 = .ok (.aload_n 0, 1) := by decide +kernel
theorem dX2_closeBlock_1 : decode cX2_closeBlock 1 = .ok (.getfield 12, 3) := by decide +kernel
theorem dX2_closeBlock_4 : decode cX2_closeBlock 4 = .ok (.invokevirtual 157, 3) := by decide +kernel
theorem dX2_closeBlock_7 : decode cX2_closeBlock 7 = .ok (.aload_n 0, 1) := by decide +kernel
theorem dX2_closeBlock_8 : decode cX2_closeBlock 8 = .ok (.aload_n 0, 1) := by decide +kernel
theorem dX2_closeBlock_9 : decode cX2_closeBlock 9 = .ok (.getfield 81, 3) := by decide +kernel
theorem dX2_closeBlock_12 : decode cX2_closeBlock 12 = .ok (.iconst 1, 1) := by decide +kernel
theorem dX2_closeBlock_13 : decode cX2_closeBlock 13 = .ok (.isub, 1) := by decide +kernel
theorem dX2_closeBlock_14 : decode cX2_closeBlock 14 = .ok (.iconst 0, 1) := by decide +kernel
theorem dX2_closeBlock_15 : decode cX2_closeBlock 15 = .ok (.invokestatic 279, 3) := by decide +kernel
theorem dX2_closeBlock_18 : decode cX2_closeBlock 18 = .ok (.putfield 81, 3) := by decide +kernel
theorem dX2_closeBlock_21 : decode cX2_closeBlock 21 = .ok (.aload_n 0, 1) := by decide +kernel
theorem dX2_closeBlock_22 : decode cX2_closeBlock 22 = .ok (.getfield 21, 3) := by decide +kernel
theorem dX2_closeBlock_25 : decode cX2_closeBlock 25 = .ok (.aload_n 0, 1) := by decide +kernel
theorem dX2_closeBlock_26 : decode cX2_closeBlock 26 = .ok (.getfield 44, 3) := by decide +kernel
theorem dX2_closeBlock_29 : decode cX2_closeBlock 29 = .ok (.aload_n 0, 1) := by decide +kernel
theorem dX2_closeBlock_30 : decode cX2_closeBlock 30 = .ok (.getfield 81, 3) := by decide +kernel
theorem dX2_closeBlock_33 : decode cX2_closeBlock 33 = .ok (.iaload, 1) := by decide +kernel
theorem dX2_closeBlock_34 : decode cX2_closeBlock 34 = .ok (.putfield 325, 3) := by decide +kernel
theorem dX2_closeBlock_37 : decode cX2_closeBlock 37 = .ok (.aload_n 0, 1) := by decide +kernel
theorem dX2_closeBlock_38 : decode cX2_closeBlock 38 = .ok (.getfield 38, 3) := by decide +kernel
theorem dX2_closeBlock_41 : decode cX2_closeBlock 41 = .ok (.aload_n 0, 1) := by decide +kernel
theorem dX2_closeBlock_42 : decode cX2_closeBlock 42 = .ok (.getfield 81, 3) := by decide +kernel
theorem dX2_closeBlock_45 : decode cX2_closeBlock 45 = .ok (.iaload, 1) := by decide +kernel
theorem dX2_closeBlock_46 : decode cX2_closeBlock 46 = .ok (.istore_n 1, 1) := by decide +kernel
theorem dX2_closeBlock_47 : decode cX2_closeBlock 47 = .ok (.aload_n 0, 1) := by decide +kernel
theorem dX2_closeBlock_48 : decode cX2_closeBlock 48 = .ok (.getfield 34, 3) := by decide +kernel
theorem dX2_closeBlock_51 : decode cX2_closeBlock 51 = .ok (.aload_n 0, 1) := by decide +kernel
theorem dX2_closeBlock_52 : decode cX2_closeBlock 52 = .ok (.getfield 81, 3) := by decide +kernel
theorem dX2_closeBlock_55 : decode cX2_closeBlock 55 = .ok (.iaload, 1) := by decide +kernel
theorem dX2_closeBlock_56 : decode cX2_closeBlock 56 = .ok (.ifCond .ne 14, 3) := by decide +kernel
theorem dX2_closeBlock_59 : decode cX2_closeBlock 59 = .ok (.aload_n 0, 1) := by decide +kernel
theorem dX2_closeBlock_60 : decode cX2_closeBlock 60 = .ok (.getfield 51, 3) := by decide +kernel
theorem dX2_closeBlock_63 : decode cX2_closeBlock 63 = .ok (.bipush 19, 2) := by decide +kernel
theorem dX2_closeBlock_65 : decode cX2_closeBlock 65 = .ok (.iconst 0, 1) := by decide +kernel
theorem dX2_closeBlock_66 : decode cX2_closeBlock 66 = .ok (.invokevirtual 221, 3) := by decide +kernel
theorem dX2_closeBlock_69 : decode cX2_closeBlock 69 = .ok (.return_, 1) := by decide +kernel
theorem dX2_closeBlock_70 : decode cX2_closeBlock 70 = .ok (.aload_n 0, 1) := by decide +kernel
theorem dX2_closeBlock_71 : decode cX2_closeBlock 71 = .ok (.getfield 34, 3) := by decide +kernel
theorem dX2_closeBlock_74 : decode cX2_closeBlock 74 = .ok (.aload_n 0, 1) := by decide +kernel
theorem dX2_closeBlock_75 : decode cX2_closeBlock 75 = .ok (.getfield 81, 3) := by decide +kernel
theorem dX2_closeBlock_78 : decode cX2_closeBlock 78 = .ok (.iaload, 1) := by decide +kernel
theorem dX2_closeBlock_79 : decode cX2_closeBlock 79 = .ok (.iconst 3, 1) := by decide +kernel
theorem dX2_closeBlock_80 : decode cX2_closeBlock 80 = .ok (.if_icmp .ne 21, 3) := by decide +kernel
theorem dX2_closeBlock_83 : decode cX2_closeBlock 83 = .ok (.aload_n 0, 1) := by decide +kernel
theorem dX2_closeBlock_84 : decode cX2_closeBlock 84 = .ok (.getfield 51, 3) := by decide +kernel
theorem dX2_closeBlock_87 : decode cX2_closeBlock 87 = .ok (.bipush 15, 2) := by decide +kernel
theorem dX2_closeBlock_89 : decode cX2_closeBlock 89 = .ok (.aload_n 0, 1) := by decide +kernel
theorem dX2_closeBlock_90 : decode cX2_closeBlock 90 = .ok (.getfield 41, 3) := by decide +kernel
theorem dX2_closeBlock_93 : decode cX2_closeBlock 93 = .ok (.aload_n 0, 1) := by decide +kernel
theorem dX2_closeBlock_94 : decode cX2_closeBlock 94 = .ok (.getfield 81, 3) := by decide +kernel
theorem dX2_closeBlock_97 : decode cX2_closeBlock 97 = .ok (.iaload, 1) := by decide +kernel
theorem dX2_closeBlock_98 : decode cX2_closeBlock 98 = .ok (.invokevirtual 221, 3) := by decide +kernel
theorem dX2_closeBlock_101 : decode cX2_closeBlock 101 = .ok (.aload_n 0, 1) := by decide +kernel
theorem dX2_closeBlock_102 : decode cX2_closeBlock 102 = .ok (.getfield 34, 3) := by decide +kernel
theorem dX2_closeBlock_105 : decode cX2_closeBlock 105 = .ok (.aload_n 0, 1) := by decide +kernel
theorem dX2_closeBlock_106 : decode cX2_closeBlock 106 = .ok (.getfield 81, 3) := by decide +kernel
theorem dX2_closeBlock_109 : decode cX2_closeBlock 109 = .ok (.iaload, 1) := by decide +kernel
theorem dX2_closeBlock_110 : decode cX2_closeBlock 110 = .ok (.iconst 1, 1) := by decide +kernel
theorem dX2_closeBlock_111 : decode cX2_closeBlock 111 = .ok (.if_icmp .ne 19, 3) := by decide +kernel
theorem dX2_closeBlock_114 : decode cX2_closeBlock 114 = .ok (.aload_n 0, 1) := by decide +kernel
theorem dX2_closeBlock_115 : decode cX2_closeBlock 115 = .ok (.getfield 12, 3) := by decide +kernel
theorem dX2_closeBlock_118 : decode cX2_closeBlock 118 = .ok (.invokevirtual 85, 3) := by decide +kernel
theorem dX2_closeBlock_121 : decode cX2_closeBlock 121 = .ok (.bipush 24, 2) := by decide +kernel
theorem dX2_closeBlock_123 : decode cX2_closeBlock 123 = .ok (.if_icmp .ne 7, 3) := by decide +kernel
theorem dX2_closeBlock_126 : decode cX2_closeBlock 126 = .ok (.iconst 1, 1) := by decide +kernel
theorem dX2_closeBlock_127 : decode cX2_closeBlock 127 = .ok (.goto 4, 3) := by decide +kernel
theorem dX2_closeBlock_130 : decode cX2_closeBlock 130 = .ok (.iconst 0, 1) := by decide +kernel
theorem dX2_closeBlock_131 : decode cX2_closeBlock 131 = .ok (.istore_n 2, 1) := by decide +kernel
theorem dX2_closeBlock_132 : decode cX2_closeBlock 132 = .ok (.aload_n 0, 1) := by decide +kernel
theorem dX2_closeBlock_133 : decode cX2_closeBlock 133 = .ok (.getfield 51, 3) := by decide +kernel
theorem dX2_closeBlock_136 : decode cX2_closeBlock 136 = .ok (.getfield 318, 3) := by decide +kernel
theorem dX2_closeBlock_139 : decode cX2_closeBlock 139 = .ok (.istore_n 3, 1) := by decide +kernel
theorem dX2_closeBlock_140 : decode cX2_closeBlock 140 = .ok (.iload_n 2, 1) := by decide +kernel
theorem dX2_closeBlock_141 : decode cX2_closeBlock 141 = .ok (.ifCond .eq 13, 3) := by decide +kernel
theorem dX2_closeBlock_144 : decode cX2_closeBlock 144 = .ok (.aload_n 0, 1) := by decide +kernel
theorem dX2_closeBlock_145 : decode cX2_closeBlock 145 = .ok (.getfield 51, 3) := by decide +kernel
theorem dX2_closeBlock_148 : decode cX2_closeBlock 148 = .ok (.bipush 15, 2) := by decide +kernel
theorem dX2_closeBlock_150 : decode cX2_closeBlock 150 = .ok (.iconst 0, 1) := by decide +kernel
theorem dX2_closeBlock_151 : decode cX2_closeBlock 151 = .ok (.invokevirtual 221, 3) := by decide +kernel
theorem dX2_closeBlock_154 : decode cX2_closeBlock 154 = .ok (.aload_n 0, 1) := by decide +kernel
theorem dX2_closeBlock_155 : decode cX2_closeBlock 155 = .ok (.getfield 51, 3) := by decide +kernel
theorem dX2_closeBlock_158 : decode cX2_closeBlock 158 = .ok (.iload_n 1, 1) := by decide +kernel
theorem dX2_closeBlock_159 : decode cX2_closeBlock 159 = .ok (.invokevirtual 328, 3) := by decide +kernel
theorem dX2_closeBlock_162 : decode cX2_closeBlock 162 = .ok (.iload_n 2, 1) := by decide +kernel
theorem dX2_closeBlock_163 : decode cX2_closeBlock 163 = .ok (.ifCond .eq 17, 3) := by decide +kernel
theorem dX2_closeBlock_166 : decode cX2_closeBlock 166 = .ok (.aload_n 0, 1) := by decide +kernel
theorem dX2_closeBlock_167 : decode cX2_closeBlock 167 = .ok (.getfield 12, 3) := by decide +kernel
theorem dX2_closeBlock_170 : decode cX2_closeBlock 170 = .ok (.invokevirtual 157, 3) := by decide +kernel
theorem dX2_closeBlock_173 : decode cX2_closeBlock 173 = .ok (.aload_n 0, 1) := by decide +kernel
theorem dX2_closeBlock_174 : decode cX2_closeBlock 174 = .ok (.iconst 2, 1) := by decide +kernel
theorem dX2_closeBlock_175 : decode cX2_closeBlock 175 = .ok (.iload_n 3, 1) := by decide +kernel
theorem dX2_closeBlock_176 : decode cX2_closeBlock 176 = .ok (.iconst (-1), 1) := by decide +kernel
theorem dX2_closeBlock_177 : decode cX2_closeBlock 177 = .ok (.invokevirtual 321, 3) := by decide +kernel
theorem dX2_closeBlock_180 : decode cX2_closeBlock 180 = .ok (.return_, 1) := by decide +kernel
theorem dX2_startsStatement_0 : decode cX2_startsStatement 0 = .ok (.iload_n 0, 1) := by decide +kernel
theorem dX2_startsStatement_1 : decode cX2_startsStatement 1 = .ok (.iconst 3, 1) := by decide +kernel
theorem dX2_startsStatement_2 : decode cX2_startsStatement 2 = .ok (.if_icmp .eq 27, 3) := by decide +kernel
theorem dX2_startsStatement_5 : decode cX2_startsStatement 5 = .ok (.iload_n 0, 1) := by decide +kernel
theorem dX2_startsStatement_6 : decode cX2_startsStatement 6 = .ok (.bipush 11, 2) := by decide +kernel
theorem dX2_startsStatement_8 : decode cX2_startsStatement 8 = .ok (.if_icmp .eq 21, 3) := by decide +kernel
theorem dX2_startsStatement_11 : decode cX2_startsStatement 11 = .ok (.iload_n 0, 1) := by decide +kernel
theorem dX2_startsStatement_12 : decode cX2_startsStatement 12 = .ok (.bipush 22, 2) := by decide +kernel
theorem dX2_startsStatement_14 : decode cX2_startsStatement 14 = .ok (.if_icmp .lt 19, 3) := by decide +kernel
theorem dX2_startsStatement_17 : decode cX2_startsStatement 17 = .ok (.iload_n 0, 1) := by decide +kernel
theorem dX2_startsStatement_18 : decode cX2_startsStatement 18 = .ok (.bipush 27, 2) := by decide +kernel
theorem dX2_startsStatement_20 : decode cX2_startsStatement 20 = .ok (.if_icmp .gt 13, 3) := by decide +kernel
theorem dX2_startsStatement_23 : decode cX2_startsStatement 23 = .ok (.iload_n 0, 1) := by decide +kernel
theorem dX2_startsStatement_24 : decode cX2_startsStatement 24 = .ok (.bipush 24, 2) := by decide +kernel
theorem dX2_startsStatement_26 : decode cX2_startsStatement 26 = .ok (.if_icmp .eq 7, 3) := by decide +kernel
theorem dX2_startsStatement_29 : decode cX2_startsStatement 29 = .ok (.iconst 1, 1) := by decide +kernel
theorem dX2_startsStatement_30 : decode cX2_startsStatement 30 = .ok (.goto 4, 3) := by decide +kernel
theorem dX2_startsStatement_33 : decode cX2_startsStatement 33 = .ok (.iconst 0, 1) := by decide +kernel
theorem dX2_startsStatement_34 : decode cX2_startsStatement 34 = .ok (.ireturn, 1) := by decide +kernel
theorem dX2_refuseStatement_0 : decode cX2_refuseStatement 0 = .ok (.aload_n 0, 1) := by decide +kernel
theorem dX2_refuseStatement_1 : decode cX2_refuseStatement 1 = .ok (.getfield 12, 3) := by decide +kernel
theorem dX2_refuseStatement_4 : decode cX2_refuseStatement 4 = .ok (.invokevirtual 129, 3) := by decide +kernel
theorem dX2_refuseStatement_7 : decode cX2_refuseStatement 7 = .ok (.istore_n 1, 1) := by decide +kernel
theorem dX2_refuseStatement_8 : decode cX2_refuseStatement 8 = .ok (.aload_n 0, 1) := by decide +kernel
theorem dX2_refuseStatement_9 : decode cX2_refuseStatement 9 = .ok (.getfield 12, 3) := by decide +kernel
theorem dX2_refuseStatement_12 : decode cX2_refuseStatement 12 = .ok (.invokevirtual 85, 3) := by decide +kernel
theorem dX2_refuseStatement_15 : decode cX2_refuseStatement 15 = .ok (.iconst 3, 1) := by decide +kernel
theorem dX2_refuseStatement_16 : decode cX2_refuseStatement 16 = .ok (.if_icmp .ne 75, 3) := by decide +kernel
theorem dX2_refuseStatement_19 : decode cX2_refuseStatement 19 = .ok (.aload_n 0, 1) := by decide +kernel
theorem dX2_refuseStatement_20 : decode cX2_refuseStatement 20 = .ok (.getfield 12, 3) := by decide +kernel
theorem dX2_refuseStatement_23 : decode cX2_refuseStatement 23 = .ok (.invokevirtual 132, 3) := by decide +kernel
theorem dX2_refuseStatement_26 : decode cX2_refuseStatement 26 = .ok (.lstore_n 2, 1) := by decide +kernel
theorem dX2_refuseStatement_27 : decode cX2_refuseStatement 27 = .ok (.aload_n 0, 1) := by decide +kernel
theorem dX2_refuseStatement_28 : decode cX2_refuseStatement 28 = .ok (.getfield 12, 3) := by decide +kernel
theorem dX2_refuseStatement_31 : decode cX2_refuseStatement 31 = .ok (.invokevirtual 157, 3) := by decide +kernel
theorem dX2_refuseStatement_34 : decode cX2_refuseStatement 34 = .ok (.aload_n 0, 1) := by decide +kernel
theorem dX2_refuseStatement_35 : decode cX2_refuseStatement 35 = .ok (.getfield 12, 3) := by decide +kernel
theorem dX2_refuseStatement_38 : decode cX2_refuseStatement 38 = .ok (.invokevirtual 368, 3) := by decide +kernel
theorem dX2_refuseStatement_41 : decode cX2_refuseStatement 41 = .ok (.ifCond .eq 18, 3) := by decide +kernel
theorem dX2_refuseStatement_44 : decode cX2_refuseStatement 44 = .ok (.aload_n 0, 1) := by decide +kernel
theorem dX2_refuseStatement_45 : decode cX2_refuseStatement 45 = .ok (.getfield 51, 3) := by decide +kernel
theorem dX2_refuseStatement_48 : decode cX2_refuseStatement 48 = .ok (.aload_n 0, 1) := by decide +kernel
theorem dX2_refuseStatement_49 : decode cX2_refuseStatement 49 = .ok (.getfield 64, 3) := by decide +kernel
theorem dX2_refuseStatement_52 : decode cX2_refuseStatement 52 = .ok (.lload_n 2, 1) := by decide +kernel
theorem dX2_refuseStatement_53 : decode cX2_refuseStatement 53 = .ok (.invokevirtual 224, 3) := by decide +kernel
theorem dX2_refuseStatement_56 : decode cX2_refuseStatement 56 = .ok (.goto 11, 3) := by decide +kernel
theorem dX2_refuseStatement_59 : decode cX2_refuseStatement 59 = .ok (.aload_n 0, 1) := by decide +kernel
theorem dX2_refuseStatement_60 : decode cX2_refuseStatement 60 = .ok (.getfield 21, 3) := by decide +kernel
theorem dX2_refuseStatement_63 : decode cX2_refuseStatement 63 = .ok (.lload_n 2, 1) := by decide +kernel
theorem dX2_refuseStatement_64 : decode cX2_refuseStatement 64 = .ok (.invokevirtual 285, 3) := by decide +kernel
theorem dX2_refuseStatement_67 : decode cX2_refuseStatement 67 = .ok (.istore 4, 2) := by decide +kernel
theorem dX2_refuseStatement_69 : decode cX2_refuseStatement 69 = .ok (.aload_n 0, 1) := by decide +kernel
theorem dX2_refuseStatement_70 : decode cX2_refuseStatement 70 = .ok (.getfield 12, 3) := by decide +kernel
theorem dX2_refuseStatement_73 : decode cX2_refuseStatement 73 = .ok (.iload 4, 2) := by decide +kernel
theorem dX2_refuseStatement_75 : decode cX2_refuseStatement 75 = .ok (.iconst (-1), 1) := by decide +kernel
theorem dX2_refuseStatement_76 : decode cX2_refuseStatement 76 = .ok (.if_icmp .ne 7, 3) := by decide +kernel
theorem dX2_refuseStatement_79 : decode cX2_refuseStatement 79 = .ok (.iconst 2, 1) := by decide +kernel
theorem dX2_refuseStatement_80 : decode cX2_refuseStatement 80 = .ok (.goto 4, 3) := by decide +kernel
theorem dX2_refuseStatement_83 : decode cX2_refuseStatement 83 = .ok (.iconst 4, 1) := by decide +kernel
theorem dX2_refuseStatement_84 : decode cX2_refuseStatement 84 = .ok (.iload_n 1, 1) := by decide +kernel
theorem dX2_refuseStatement_85 : decode cX2_refuseStatement 85 = .ok (.invokevirtual 136, 3) := by decide +kernel
theorem dX2_refuseStatement_88 : decode cX2_refuseStatement 88 = .ok (.goto 12, 3) := by decide +kernel
theorem dX2_refuseStatement_91 : decode cX2_refuseStatement 91 = .ok (.aload_n 0, 1) := by decide +kernel
theorem dX2_refuseStatement_92 : decode cX2_refuseStatement 92 = .ok (.getfield 12, 3) := by decide +kernel
theorem dX2_refuseStatement_95 : decode cX2_refuseStatement 95 = .ok (.iconst 4, 1) := by decide +kernel
theorem dX2_refuseStatement_96 : decode cX2_refuseStatement 96 = .ok (.iload_n 1, 1) := by decide +kernel
theorem dX2_refuseStatement_97 : decode cX2_refuseStatement 97 = .ok (.invokevirtual 136, 3) := by decide +kernel
theorem dX2_refuseStatement_100 : decode cX2_refuseStatement 100 = .ok (.return_, 1) := by decide +kernel
theorem dX2_readThrow_0 : decode cX2_readThrow 0 = .ok (.aload_n 0, 1) := by decide +kernel
theorem dX2_readThrow_1 : decode cX2_readThrow 1 = .ok (.getfield 12, 3) := by decide +kernel
theorem dX2_readThrow_4 : decode cX2_readThrow 4 = .ok (.invokevirtual 157, 3) := by decide +kernel
theorem dX2_readThrow_7 : decode cX2_readThrow 7 = .ok (.aload_n 0, 1) := by decide +kernel
theorem dX2_readThrow_8 : decode cX2_readThrow 8 = .ok (.getfield 51, 3) := by decide +kernel
theorem dX2_readThrow_11 : decode cX2_readThrow 11 = .ok (.bipush 16, 2) := by decide +kernel
theorem dX2_readThrow_13 : decode cX2_readThrow 13 = .ok (.aload_n 0, 1) := by decide +kernel
theorem dX2_readThrow_14 : decode cX2_readThrow 14 = .ok (.getfield 51, 3) := by decide +kernel
theorem dX2_readThrow_17 : decode cX2_readThrow 17 = .ok (.aload_n 0, 1) := by decide +kernel
theorem dX2_readThrow_18 : decode cX2_readThrow 18 = .ok (.getfield 12, 3) := by decide +kernel
theorem dX2_readThrow_21 : decode cX2_readThrow 21 = .ok (.invokevirtual 132, 3) := by decide +kernel
theorem dX2_readThrow_24 : decode cX2_readThrow 24 = .ok (.invokevirtual 374, 3) := by decide +kernel
theorem dX2_readThrow_27 : decode cX2_readThrow 27 = .ok (.invokevirtual 221, 3) := by decide +kernel
theorem dX2_readThrow_30 : decode cX2_readThrow 30 = .ok (.aload_n 0, 1) := by decide +kernel
theorem dX2_readThrow_31 : decode cX2_readThrow 31 = .ok (.getfield 12, 3) := by decide +kernel
theorem dX2_readThrow_34 : decode cX2_readThrow 34 = .ok (.iconst 3, 1) := by decide +kernel
theorem dX2_readThrow_35 : decode cX2_readThrow 35 = .ok (.invokevirtual 89, 3) := by decide +kernel
theorem dX2_readThrow_38 : decode cX2_readThrow 38 = .ok (.aload_n 0, 1) := by decide +kernel
theorem dX2_readThrow_39 : decode cX2_readThrow 39 = .ok (.getfield 12, 3) := by decide +kernel
theorem dX2_readThrow_42 : decode cX2_readThrow 42 = .ok (.bipush 59, 2) := by decide +kernel
theorem dX2_readThrow_44 : decode cX2_readThrow 44 = .ok (.invokevirtual 89, 3) := by decide +kernel
theorem dX2_readThrow_47 : decode cX2_readThrow 47 = .ok (.return_, 1) := by decide +kernel
theorem dX2_findAbove_0 : decode cX2_findAbove 0 = .ok (.aload_n 0, 1) := by decide +kernel
theorem dX2_findAbove_1 : decode cX2_findAbove 1 = .ok (.getfield 12, 3) := by decide +kernel
theorem dX2_findAbove_4 : decode cX2_findAbove 4 = .ok (.invokevirtual 129, 3) := by decide +kernel
theorem dX2_findAbove_7 : decode cX2_findAbove 7 = .ok (.istore_n 1, 1) := by decide +kernel
theorem dX2_findAbove_8 : decode cX2_findAbove 8 = .ok (.aload_n 0, 1) := by decide +kernel
theorem dX2_findAbove_9 : decode cX2_findAbove 9 = .ok (.getfield 12, 3) := by decide +kernel
theorem dX2_findAbove_12 : decode cX2_findAbove 12 = .ok (.invokevirtual 157, 3) := by decide +kernel
theorem dX2_findAbove_15 : decode cX2_findAbove 15 = .ok (.aload_n 0, 1) := by decide +kernel
theorem dX2_findAbove_16 : decode cX2_findAbove 16 = .ok (.getfield 51, 3) := by decide +kernel
theorem dX2_findAbove_19 : decode cX2_findAbove 19 = .ok (.aload_n 0, 1) := by decide +kernel
theorem dX2_findAbove_20 : decode cX2_findAbove 20 = .ok (.getfield 64, 3) := by decide +kernel
theorem dX2_findAbove_23 : decode cX2_findAbove 23 = .ok (.getfield 377, 3) := by decide +kernel
theorem dX2_findAbove_26 : decode cX2_findAbove 26 = .ok (.invokevirtual 380, 3) := by decide +kernel
theorem dX2_findAbove_29 : decode cX2_findAbove 29 = .ok (.ifCond .ne 14, 3) := by decide +kernel
theorem dX2_findAbove_32 : decode cX2_findAbove 32 = .ok (.aload_n 0, 1) := by decide +kernel
theorem dX2_findAbove_33 : decode cX2_findAbove 33 = .ok (.getfield 12, 3) := by decide +kernel
theorem dX2_findAbove_36 : decode cX2_findAbove 36 = .ok (.iconst 5, 1) := by decide +kernel
theorem dX2_findAbove_37 : decode cX2_findAbove 37 = .ok (.iload_n 1, 1) := by decide +kernel
theorem dX2_findAbove_38 : decode cX2_findAbove 38 = .ok (.invokevirtual 136, 3) := by decide +kernel
theorem dX2_findAbove_41 : decode cX2_findAbove 41 = .ok (.iconst 1, 1) := by decide +kernel
theorem dX2_findAbove_42 : decode cX2_findAbove 42 = .ok (.ireturn, 1) := by decide +kernel
theorem dX2_findAbove_43 : decode cX2_findAbove 43 = .ok (.aload_n 0, 1) := by decide +kernel
theorem dX2_findAbove_44 : decode cX2_findAbove 44 = .ok (.getfield 51, 3) := by decide +kernel
theorem dX2_findAbove_47 : decode cX2_findAbove 47 = .ok (.getfield 60, 3) := by decide +kernel
theorem dX2_findAbove_50 : decode cX2_findAbove 50 = .ok (.aload_n 0, 1) := by decide +kernel
theorem dX2_findAbove_51 : decode cX2_findAbove 51 = .ok (.getfield 64, 3) := by decide +kernel
theorem dX2_findAbove_54 : decode cX2_findAbove 54 = .ok (.getfield 377, 3) := by decide +kernel
theorem dX2_findAbove_57 : decode cX2_findAbove 57 = .ok (.aaload, 1) := by decide +kernel
theorem dX2_findAbove_58 : decode cX2_findAbove 58 = .ok (.astore_n 2, 1) := by decide +kernel
theorem dX2_findAbove_59 : decode cX2_findAbove 59 = .ok (.aload_n 0, 1) := by decide +kernel
theorem dX2_findAbove_60 : decode cX2_findAbove 60 = .ok (.getfield 12, 3) := by decide +kernel
theorem dX2_findAbove_63 : decode cX2_findAbove 63 = .ok (.bipush 46, 2) := by decide +kernel
theorem dX2_findAbove_65 : decode cX2_findAbove 65 = .ok (.invokevirtual 89, 3) := by decide +kernel
theorem dX2_findAbove_68 : decode cX2_findAbove 68 = .ok (.aload_n 0, 1) := by decide +kernel
theorem dX2_findAbove_69 : decode cX2_findAbove 69 = .ok (.getfield 51, 3) := by decide +kernel
theorem dX2_findAbove_72 : decode cX2_findAbove 72 = .ok (.aload_n 2, 1) := by decide +kernel
theorem dX2_findAbove_73 : decode cX2_findAbove 73 = .ok (.aload_n 0, 1) := by decide +kernel
theorem dX2_findAbove_74 : decode cX2_findAbove 74 = .ok (.getfield 12, 3) := by decide +kernel
theorem dX2_findAbove_77 : decode cX2_findAbove 77 = .ok (.invokevirtual 132, 3) := by decide +kernel
theorem dX2_findAbove_80 : decode cX2_findAbove 80 = .ok (.invokevirtual 224, 3) := by decide +kernel
theorem dX2_findAbove_83 : decode cX2_findAbove 83 = .ok (.istore_n 3, 1) := by decide +kernel
theorem dX2_findAbove_84 : decode cX2_findAbove 84 = .ok (.aload_n 0, 1) := by decide +kernel
theorem dX2_findAbove_85 : decode cX2_findAbove 85 = .ok (.getfield 12, 3) := by decide +kernel
theorem dX2_findAbove_88 : decode cX2_findAbove 88 = .ok (.invokevirtual 85, 3) := by decide +kernel
theorem dX2_findAbove_91 : decode cX2_findAbove 91 = .ok (.iconst 3, 1) := by decide +kernel
theorem dX2_findAbove_92 : decode cX2_findAbove 92 = .ok (.if_icmp .eq 21, 3) := by decide +kernel
theorem dX2_findAbove_95 : decode cX2_findAbove 95 = .ok (.aload_n 0, 1) := by decide +kernel
theorem dX2_findAbove_96 : decode cX2_findAbove 96 = .ok (.getfield 12, 3) := by decide +kernel
theorem dX2_findAbove_99 : decode cX2_findAbove 99 = .ok (.iconst 1, 1) := by decide +kernel
theorem dX2_findAbove_100 : decode cX2_findAbove 100 = .ok (.aload_n 0, 1) := by decide +kernel
theorem dX2_findAbove_101 : decode cX2_findAbove 101 = .ok (.getfield 12, 3) := by decide +kernel
theorem dX2_findAbove_104 : decode cX2_findAbove 104 = .ok (.invokevirtual 129, 3) := by decide +kernel
theorem dX2_findAbove_107 : decode cX2_findAbove 107 = .ok (.invokevirtual 136, 3) := by decide +kernel
theorem dX2_findAbove_110 : decode cX2_findAbove 110 = .ok (.goto 61, 3) := by decide +kernel
theorem dX2_findAbove_113 : decode cX2_findAbove 113 = .ok (.iload_n 3, 1) := by decide +kernel
theorem dX2_findAbove_114 : decode cX2_findAbove 114 = .ok (.iconst (-1), 1) := by decide +kernel
theorem dX2_findAbove_115 : decode cX2_findAbove 115 = .ok (.if_icmp .ne 21, 3) := by decide +kernel
theorem dX2_findAbove_118 : decode cX2_findAbove 118 = .ok (.aload_n 0, 1) := by decide +kernel
theorem dX2_findAbove_119 : decode cX2_findAbove 119 = .ok (.getfield 12, 3) := by decide +kernel
theorem dX2_findAbove_122 : decode cX2_findAbove 122 = .ok (.iconst 2, 1) := by decide +kernel
theorem dX2_findAbove_123 : decode cX2_findAbove 123 = .ok (.aload_n 0, 1) := by decide +kernel
theorem dX2_findAbove_124 : decode cX2_findAbove 124 = .ok (.getfield 12, 3) := by decide +kernel
theorem dX2_findAbove_127 : decode cX2_findAbove 127 = .ok (.invokevirtual 129, 3) := by decide +kernel
theorem dX2_findAbove_130 : decode cX2_findAbove 130 = .ok (.invokevirtual 136, 3) := by decide +kernel
theorem dX2_findAbove_133 : decode cX2_findAbove 133 = .ok (.goto 38, 3) := by decide +kernel
theorem dX2_findAbove_136 : decode cX2_findAbove 136 = .ok (.aload_n 0, 1) := by decide +kernel
theorem dX2_findAbove_137 : decode cX2_findAbove 137 = .ok (.bipush 18, 2) := by decide +kernel
theorem dX2_findAbove_139 : decode cX2_findAbove 139 = .ok (.putfield 383, 3) := by decide +kernel
theorem dX2_findAbove_142 : decode cX2_findAbove 142 = .ok (.aload_n 0, 1) := by decide +kernel
theorem dX2_findAbove_143 : decode cX2_findAbove 143 = .ok (.aload_n 2, 1) := by decide +kernel
theorem dX2_findAbove_144 : decode cX2_findAbove 144 = .ok (.getfield 228, 3) := by decide +kernel
theorem dX2_findAbove_147 : decode cX2_findAbove 147 = .ok (.iload_n 3, 1) := by decide +kernel
theorem dX2_findAbove_148 : decode cX2_findAbove 148 = .ok (.iaload, 1) := by decide +kernel
theorem dX2_findAbove_149 : decode cX2_findAbove 149 = .ok (.putfield 386, 3) := by decide +kernel
theorem dX2_findAbove_152 : decode cX2_findAbove 152 = .ok (.aload_n 0, 1) := by decide +kernel
theorem dX2_findAbove_153 : decode cX2_findAbove 153 = .ok (.aload_n 0, 1) := by decide +kernel
theorem dX2_findAbove_154 : decode cX2_findAbove 154 = .ok (.getfield 51, 3) := by decide +kernel
theorem dX2_findAbove_157 : decode cX2_findAbove 157 = .ok (.getfield 68, 3) := by decide +kernel
theorem dX2_findAbove_160 : decode cX2_findAbove 160 = .ok (.aload_n 0, 1) := by decide +kernel
theorem dX2_findAbove_161 : decode cX2_findAbove 161 = .ok (.getfield 386, 3) := by decide +kernel
theorem dX2_findAbove_164 : decode cX2_findAbove 164 = .ok (.aaload, 1) := by decide +kernel
theorem dX2_findAbove_165 : decode cX2_findAbove 165 = .ok (.getfield 244, 3) := by decide +kernel
theorem dX2_findAbove_168 : decode cX2_findAbove 168 = .ok (.putfield 389, 3) := by decide +kernel
theorem dX2_findAbove_171 : decode cX2_findAbove 171 = .ok (.aload_n 0, 1) := by decide +kernel
theorem dX2_findAbove_172 : decode cX2_findAbove 172 = .ok (.getfield 12, 3) := by decide +kernel
theorem dX2_findAbove_175 : decode cX2_findAbove 175 = .ok (.invokevirtual 157, 3) := by decide +kernel
theorem dX2_findAbove_178 : decode cX2_findAbove 178 = .ok (.iconst 1, 1) := by decide +kernel
theorem dX2_findAbove_179 : decode cX2_findAbove 179 = .ok (.ireturn, 1) := by decide +kernel
theorem dX2_findNamed_0 : decode cX2_findNamed 0 = .ok (.aload_n 0, 1) := by decide +kernel
theorem dX2_findNamed_1 : decode cX2_findNamed 1 = .ok (.getfield 12, 3) := by decide +kernel
theorem dX2_findNamed_4 : decode cX2_findNamed 4 = .ok (.invokevirtual 129, 3) := by decide +kernel
theorem dX2_findNamed_7 : decode cX2_findNamed 7 = .ok (.istore_n 1, 1) := by decide +kernel
theorem dX2_findNamed_8 : decode cX2_findNamed 8 = .ok (.aload_n 0, 1) := by decide +kernel
theorem dX2_findNamed_9 : decode cX2_findNamed 9 = .ok (.getfield 12, 3) := by decide +kernel
theorem dX2_findNamed_12 : decode cX2_findNamed 12 = .ok (.invokevirtual 132, 3) := by decide +kernel
theorem dX2_findNamed_15 : decode cX2_findNamed 15 = .ok (.lstore_n 2, 1) := by decide +kernel
theorem dX2_findNamed_16 : decode cX2_findNamed 16 = .ok (.aload_n 0, 1) := by decide +kernel
theorem dX2_findNamed_17 : decode cX2_findNamed 17 = .ok (.getfield 12, 3) := by decide +kernel
theorem dX2_findNamed_20 : decode cX2_findNamed 20 = .ok (.invokevirtual 157, 3) := by decide +kernel
theorem dX2_findNamed_23 : decode cX2_findNamed 23 = .ok (.aload_n 0, 1) := by decide +kernel
theorem dX2_findNamed_24 : decode cX2_findNamed 24 = .ok (.getfield 12, 3) := by decide +kernel
theorem dX2_findNamed_27 : decode cX2_findNamed 27 = .ok (.invokevirtual 368, 3) := by decide +kernel
theorem dX2_findNamed_30 : decode cX2_findNamed 30 = .ok (.istore 4, 2) := by decide +kernel
theorem dX2_findNamed_32 : decode cX2_findNamed 32 = .ok (.iload 4, 2) := by decide +kernel
theorem dX2_findNamed_34 : decode cX2_findNamed 34 = .ok (.ifCond .eq 18, 3) := by decide +kernel
theorem dX2_findNamed_37 : decode cX2_findNamed 37 = .ok (.aload_n 0, 1) := by decide +kernel
theorem dX2_findNamed_38 : decode cX2_findNamed 38 = .ok (.getfield 51, 3) := by decide +kernel
theorem dX2_findNamed_41 : decode cX2_findNamed 41 = .ok (.aload_n 0, 1) := by decide +kernel
theorem dX2_findNamed_42 : decode cX2_findNamed 42 = .ok (.getfield 64, 3) := by decide +kernel
theorem dX2_findNamed_45 : decode cX2_findNamed 45 = .ok (.lload_n 2, 1) := by decide +kernel
theorem dX2_findNamed_46 : decode cX2_findNamed 46 = .ok (.invokevirtual 224, 3) := by decide +kernel
theorem dX2_findNamed_49 : decode cX2_findNamed 49 = .ok (.goto 11, 3) := by decide +kernel
theorem dX2_findNamed_52 : decode cX2_findNamed 52 = .ok (.aload_n 0, 1) := by decide +kernel
theorem dX2_findNamed_53 : decode cX2_findNamed 53 = .ok (.getfield 21, 3) := by decide +kernel
theorem dX2_findNamed_56 : decode cX2_findNamed 56 = .ok (.lload_n 2, 1) := by decide +kernel
theorem dX2_findNamed_57 : decode cX2_findNamed 57 = .ok (.invokevirtual 285, 3) := by decide +kernel
theorem dX2_findNamed_60 : decode cX2_findNamed 60 = .ok (.istore 5, 2) := by decide +kernel
theorem dX2_findNamed_62 : decode cX2_findNamed 62 = .ok (.iload 5, 2) := by decide +kernel
theorem dX2_findNamed_64 : decode cX2_findNamed 64 = .ok (.iconst (-1), 1) := by decide +kernel
theorem dX2_findNamed_65 : decode cX2_findNamed 65 = .ok (.if_icmp .ne 15, 3) := by decide +kernel
theorem dX2_findNamed_68 : decode cX2_findNamed 68 = .ok (.aload_n 0, 1) := by decide +kernel
theorem dX2_findNamed_69 : decode cX2_findNamed 69 = .ok (.getfield 12, 3) := by decide +kernel
theorem dX2_findNamed_72 : decode cX2_findNamed 72 = .ok (.iconst 2, 1) := by decide +kernel
theorem dX2_findNamed_73 : decode cX2_findNamed 73 = .ok (.iload_n 1, 1) := by decide +kernel
theorem dX2_findNamed_74 : decode cX2_findNamed 74 = .ok (.invokevirtual 136, 3) := by decide +kernel
theorem dX2_findNamed_77 : decode cX2_findNamed 77 = .ok (.goto 86, 3) := by decide +kernel
theorem dX2_findNamed_80 : decode cX2_findNamed 80 = .ok (.iload 4, 2) := by decide +kernel
theorem dX2_findNamed_82 : decode cX2_findNamed 82 = .ok (.ifCond .eq 43, 3) := by decide +kernel
theorem dX2_findNamed_85 : decode cX2_findNamed 85 = .ok (.aload_n 0, 1) := by decide +kernel
theorem dX2_findNamed_86 : decode cX2_findNamed 86 = .ok (.bipush 17, 2) := by decide +kernel
theorem dX2_findNamed_88 : decode cX2_findNamed 88 = .ok (.putfield 383, 3) := by decide +kernel
theorem dX2_findNamed_91 : decode cX2_findNamed 91 = .ok (.aload_n 0, 1) := by decide +kernel
theorem dX2_findNamed_92 : decode cX2_findNamed 92 = .ok (.iload 5, 2) := by decide +kernel
theorem dX2_findNamed_94 : decode cX2_findNamed 94 = .ok (.putfield 386, 3) := by decide +kernel
theorem dX2_findNamed_97 : decode cX2_findNamed 97 = .ok (.aload_n 0, 1) := by decide +kernel
theorem dX2_findNamed_98 : decode cX2_findNamed 98 = .ok (.aload_n 0, 1) := by decide +kernel
theorem dX2_findNamed_99 : decode cX2_findNamed 99 = .ok (.getfield 51, 3) := by decide +kernel
theorem dX2_findNamed_102 : decode cX2_findNamed 102 = .ok (.getfield 68, 3) := by decide +kernel
theorem dX2_findNamed_105 : decode cX2_findNamed 105 = .ok (.aload_n 0, 1) := by decide +kernel
theorem dX2_findNamed_106 : decode cX2_findNamed 106 = .ok (.getfield 64, 3) := by decide +kernel
theorem dX2_findNamed_109 : decode cX2_findNamed 109 = .ok (.getfield 228, 3) := by decide +kernel
theorem dX2_findNamed_112 : decode cX2_findNamed 112 = .ok (.iload 5, 2) := by decide +kernel
theorem dX2_findNamed_114 : decode cX2_findNamed 114 = .ok (.iaload, 1) := by decide +kernel
theorem dX2_findNamed_115 : decode cX2_findNamed 115 = .ok (.aaload, 1) := by decide +kernel
theorem dX2_findNamed_116 : decode cX2_findNamed 116 = .ok (.getfield 244, 3) := by decide +kernel
theorem dX2_findNamed_119 : decode cX2_findNamed 119 = .ok (.putfield 389, 3) := by decide +kernel
theorem dX2_findNamed_122 : decode cX2_findNamed 122 = .ok (.goto 41, 3) := by decide +kernel
theorem dX2_findNamed_125 : decode cX2_findNamed 125 = .ok (.aload_n 0, 1) := by decide +kernel
theorem dX2_findNamed_126 : decode cX2_findNamed 126 = .ok (.getfield 64, 3) := by decide +kernel
theorem dX2_findNamed_129 : decode cX2_findNamed 129 = .ok (.iload 5, 2) := by decide +kernel
theorem dX2_findNamed_131 : decode cX2_findNamed 131 = .ok (.invokevirtual 392, 3) := by decide +kernel
theorem dX2_findNamed_134 : decode cX2_findNamed 134 = .ok (.aload_n 0, 1) := by decide +kernel
theorem dX2_findNamed_135 : decode cX2_findNamed 135 = .ok (.getfield 12, 3) := by decide +kernel
theorem dX2_findNamed_138 : decode cX2_findNamed 138 = .ok (.invokevirtual 85, 3) := by decide +kernel
theorem dX2_findNamed_141 : decode cX2_findNamed 141 = .ok (.bipush 91, 2) := by decide +kernel
theorem dX2_findNamed_143 : decode cX2_findNamed 143 = .ok (.if_icmp .ne 7, 3) := by decide +kernel
theorem dX2_findNamed_146 : decode cX2_findNamed 146 = .ok (.iconst 1, 1) := by decide +kernel
theorem dX2_findNamed_147 : decode cX2_findNamed 147 = .ok (.goto 4, 3) := by decide +kernel
theorem dX2_findNamed_150 : decode cX2_findNamed 150 = .ok (.iconst 0, 1) := by decide +kernel
theorem dX2_findNamed_151 : decode cX2_findNamed 151 = .ok (.if_icmp .eq 12, 3) := by decide +kernel
theorem dX2_findNamed_154 : decode cX2_findNamed 154 = .ok (.aload_n 0, 1) := by decide +kernel
theorem dX2_findNamed_155 : decode cX2_findNamed 155 = .ok (.getfield 12, 3) := by decide +kernel
theorem dX2_findNamed_158 : decode cX2_findNamed 158 = .ok (.iconst 5, 1) := by decide +kernel
theorem dX2_findNamed_159 : decode cX2_findNamed 159 = .ok (.iload_n 1, 1) := by decide +kernel
theorem dX2_findNamed_160 : decode cX2_findNamed 160 = .ok (.invokevirtual 136, 3) := by decide +kernel
theorem dX2_findNamed_163 : decode cX2_findNamed 163 = .ok (.aload_n 0, 1) := by decide +kernel
theorem dX2_findNamed_164 : decode cX2_findNamed 164 = .ok (.iload 5, 2) := by decide +kernel
theorem dX2_findNamed_166 : decode cX2_findNamed 166 = .ok (.putfield 395, 3) := by decide +kernel
theorem dX2_findNamed_169 : decode cX2_findNamed 169 = .ok (.iload 4, 2) := by decide +kernel
theorem dX2_findNamed_171 : decode cX2_findNamed 171 = .ok (.ireturn, 1) := by decide +kernel
theorem dX3_roomForCall_0 : decode cX3_roomForCall 0 = .ok (.aload_n 0, 1) := by decide +kernel
theorem dX3_roomForCall_1 : decode cX3_roomForCall 1 = .ok (.getfield 28, 3) := by decide +kernel
theorem dX3_roomForCall_4 : decode cX3_roomForCall 4 = .ok (.bipush 10, 2) := by decide +kernel
theorem dX3_roomForCall_6 : decode cX3_roomForCall 6 = .ok (.if_icmp .ge 7, 3) := by decide +kernel
theorem dX3_roomForCall_9 : decode cX3_roomForCall 9 = .ok (.iconst 1, 1) := by decide +kernel
theorem dX3_roomForCall_10 : decode cX3_roomForCall 10 = .ok (.goto 4, 3) := by decide +kernel
theorem dX3_roomForCall_13 : decode cX3_roomForCall 13 = .ok (.iconst 0, 1) := by decide +kernel
theorem dX3_roomForCall_14 : decode cX3_roomForCall 14 = .ok (.ireturn, 1) := by decide +kernel
theorem dX3_roomForMake_0 : decode cX3_roomForMake 0 = .ok (.aload_n 0, 1) := by decide +kernel
theorem dX3_roomForMake_1 : decode cX3_roomForMake 1 = .ok (.getfield 28, 3) := by decide +kernel
theorem dX3_roomForMake_4 : decode cX3_roomForMake 4 = .ok (.bipush 10, 2) := by decide +kernel
theorem dX3_roomForMake_6 : decode cX3_roomForMake 6 = .ok (.if_icmp .ge 15, 3) := by decide +kernel
theorem dX3_roomForMake_9 : decode cX3_roomForMake 9 = .ok (.aload_n 0, 1) := by decide +kernel
theorem dX3_roomForMake_10 : decode cX3_roomForMake 10 = .ok (.getfield 32, 3) := by decide +kernel
theorem dX3_roomForMake_13 : decode cX3_roomForMake 13 = .ok (.iconst 3, 1) := by decide +kernel
theorem dX3_roomForMake_14 : decode cX3_roomForMake 14 = .ok (.if_icmp .ge 7, 3) := by decide +kernel
theorem dX3_roomForMake_17 : decode cX3_roomForMake 17 = .ok (.iconst 1, 1) := by decide +kernel
theorem dX3_roomForMake_18 : decode cX3_roomForMake 18 = .ok (.goto 4, 3) := by decide +kernel
theorem dX3_roomForMake_21 : decode cX3_roomForMake 21 = .ok (.iconst 0, 1) := by decide +kernel
theorem dX3_roomForMake_22 : decode cX3_roomForMake 22 = .ok (.ireturn, 1) := by decide +kernel
theorem dX3_wipe_0 : decode cX3_wipe 0 = .ok (.aload_n 0, 1) := by decide +kernel
theorem dX3_wipe_1 : decode cX3_wipe 1 = .ok (.iconst 0, 1) := by decide +kernel
theorem dX3_wipe_2 : decode cX3_wipe 2 = .ok (.putfield 28, 3) := by decide +kernel
theorem dX3_wipe_5 : decode cX3_wipe 5 = .ok (.aload_n 0, 1) := by decide +kernel
theorem dX3_wipe_6 : decode cX3_wipe 6 = .ok (.iconst 0, 1) := by decide +kernel
theorem dX3_wipe_7 : decode cX3_wipe 7 = .ok (.putfield 32, 3) := by decide +kernel
theorem dX3_wipe_10 : decode cX3_wipe 10 = .ok (.return_, 1) := by decide +kernel
theorem dX3_mayTake_0 : decode cX3_mayTake 0 = .ok (.iload_n 2, 1) := by decide +kernel
theorem dX3_mayTake_1 : decode cX3_mayTake 1 = .ok (.ifCond .lt 25, 3) := by decide +kernel
theorem dX3_mayTake_4 : decode cX3_mayTake 4 = .ok (.iload_n 2, 1) := by decide +kernel
theorem dX3_mayTake_5 : decode cX3_mayTake 5 = .ok (.aload_n 0, 1) := by decide +kernel
theorem dX3_mayTake_6 : decode cX3_mayTake 6 = .ok (.getfield 32, 3) := by decide +kernel
theorem dX3_mayTake_9 : decode cX3_mayTake 9 = .ok (.if_icmp .ge 17, 3) := by decide +kernel
theorem dX3_mayTake_12 : decode cX3_mayTake 12 = .ok (.aload_n 1, 1) := by decide +kernel
theorem dX3_mayTake_13 : decode cX3_mayTake 13 = .ok (.aload_n 0, 1) := by decide +kernel
theorem dX3_mayTake_14 : decode cX3_mayTake 14 = .ok (.getfield 25, 3) := by decide +kernel
theorem dX3_mayTake_17 : decode cX3_mayTake 17 = .ok (.iload_n 2, 1) := by decide +kernel
theorem dX3_mayTake_18 : decode cX3_mayTake 18 = .ok (.iaload, 1) := by decide +kernel
theorem dX3_mayTake_19 : decode cX3_mayTake 19 = .ok (.iload_n 3, 1) := by decide +kernel
theorem dX3_mayTake_20 : decode cX3_mayTake 20 = .ok (.invokevirtual 35, 3) := by decide +kernel
theorem dX3_mayTake_23 : decode cX3_mayTake 23 = .ok (.ifCond .ne 5, 3) := by decide +kernel
theorem dX3_mayTake_26 : decode cX3_mayTake 26 = .ok (.iconst 0, 1) := by decide +kernel
theorem dX3_mayTake_27 : decode cX3_mayTake 27 = .ok (.ireturn, 1) := by decide +kernel
theorem dX3_mayTake_28 : decode cX3_mayTake 28 = .ok (.aload_n 0, 1) := by decide +kernel
theorem dX3_mayTake_29 : decode cX3_mayTake 29 = .ok (.aload_n 1, 1) := by decide +kernel
theorem dX3_mayTake_30 : decode cX3_mayTake 30 = .ok (.iload_n 2, 1) := by decide +kernel
theorem dX3_mayTake_31 : decode cX3_mayTake 31 = .ok (.iload_n 3, 1) := by decide +kernel
theorem dX3_mayTake_32 : decode cX3_mayTake 32 = .ok (.invokevirtual 41, 3) := by decide +kernel
theorem dX3_mayTake_35 : decode cX3_mayTake 35 = .ok (.astore 7, 2) := by decide +kernel
theorem dX3_mayTake_37 : decode cX3_mayTake 37 = .ok (.aload 7, 2) := by decide +kernel
theorem dX3_mayTake_39 : decode cX3_mayTake 39 = .ok (.iconst 0, 1) := by decide +kernel
theorem dX3_mayTake_40 : decode cX3_mayTake 40 = .ok (.iload 4, 2) := by decide +kernel
theorem dX3_mayTake_42 : decode cX3_mayTake 42 = .ok (.invokevirtual 45, 3) := by decide +kernel
theorem dX3_mayTake_45 : decode cX3_mayTake 45 = .ok (.ifCond .eq 29, 3) := by decide +kernel
theorem dX3_mayTake_48 : decode cX3_mayTake 48 = .ok (.aload 7, 2) := by decide +kernel
theorem dX3_mayTake_50 : decode cX3_mayTake 50 = .ok (.iconst 1, 1) := by decide +kernel
theorem dX3_mayTake_51 : decode cX3_mayTake 51 = .ok (.iload 5, 2) := by decide +kernel
theorem dX3_mayTake_53 : decode cX3_mayTake 53 = .ok (.invokevirtual 45, 3) := by decide +kernel
theorem dX3_mayTake_56 : decode cX3_mayTake 56 = .ok (.ifCond .eq 18, 3) := by decide +kernel
theorem dX3_mayTake_59 : decode cX3_mayTake 59 = .ok (.aload 7, 2) := by decide +kernel
theorem dX3_mayTake_61 : decode cX3_mayTake 61 = .ok (.iconst 2, 1) := by decide +kernel
theorem dX3_mayTake_62 : decode cX3_mayTake 62 = .ok (.iload 6, 2) := by decide +kernel
theorem dX3_mayTake_64 : decode cX3_mayTake 64 = .ok (.invokevirtual 45, 3) := by decide +kernel
theorem dX3_mayTake_67 : decode cX3_mayTake 67 = .ok (.ifCond .eq 7, 3) := by decide +kernel
theorem dX3_mayTake_70 : decode cX3_mayTake 70 = .ok (.iconst 1, 1) := by decide +kernel
theorem dX3_mayTake_71 : decode cX3_mayTake 71 = .ok (.goto 4, 3) := by decide +kernel
theorem dX3_mayTake_74 : decode cX3_mayTake 74 = .ok (.iconst 0, 1) := by decide +kernel
theorem dX3_mayTake_75 : decode cX3_mayTake 75 = .ok (.ireturn, 1) := by decide +kernel
theorem dX3_tellingOf_0 : decode cX3_tellingOf 0 = .ok (.aload_n 1, 1) := by decide +kernel
theorem dX3_tellingOf_1 : decode cX3_tellingOf 1 = .ok (.getfield 48, 3) := by decide +kernel
theorem dX3_tellingOf_4 : decode cX3_tellingOf 4 = .ok (.aload_n 1, 1) := by decide +kernel
theorem dX3_tellingOf_5 : decode cX3_tellingOf 5 = .ok (.getfield 52, 3) := by decide +kernel
theorem dX3_tellingOf_8 : decode cX3_tellingOf 8 = .ok (.aload_n 0, 1) := by decide +kernel
theorem dX3_tellingOf_9 : decode cX3_tellingOf 9 = .ok (.getfield 25, 3) := by decide +kernel
theorem dX3_tellingOf_12 : decode cX3_tellingOf 12 = .ok (.iload_n 2, 1) := by decide +kernel
theorem dX3_tellingOf_13 : decode cX3_tellingOf 13 = .ok (.iaload, 1) := by decide +kernel
theorem dX3_tellingOf_14 : decode cX3_tellingOf 14 = .ok (.aaload, 1) := by decide +kernel
theorem dX3_tellingOf_15 : decode cX3_tellingOf 15 = .ok (.getfield 56, 3) := by decide +kernel
theorem dX3_tellingOf_18 : decode cX3_tellingOf 18 = .ok (.iload_n 3, 1) := by decide +kernel
theorem dX3_tellingOf_19 : decode cX3_tellingOf 19 = .ok (.iaload, 1) := by decide +kernel
theorem dX3_tellingOf_20 : decode cX3_tellingOf 20 = .ok (.aaload, 1) := by decide +kernel
theorem dX3_tellingOf_21 : decode cX3_tellingOf 21 = .ok (.areturn, 1) := by decide +kernel
theorem dX3_addMake_0 : decode cX3_addMake 0 = .ok (.aload_n 0, 1) := by decide +kernel
theorem dX3_addMake_1 : decode cX3_addMake 1 = .ok (.getfield 28, 3) := by decide +kernel
theorem dX3_addMake_4 : decode cX3_addMake 4 = .ok (.bipush 10, 2) := by decide +kernel
theorem dX3_addMake_6 : decode cX3_addMake 6 = .ok (.if_icmp .ge 57, 3) := by decide +kernel
theorem dX3_addMake_9 : decode cX3_addMake 9 = .ok (.aload_n 0, 1) := by decide +kernel
theorem dX3_addMake_10 : decode cX3_addMake 10 = .ok (.getfield 32, 3) := by decide +kernel
theorem dX3_addMake_13 : decode cX3_addMake 13 = .ok (.iconst 3, 1) := by decide +kernel
theorem dX3_addMake_14 : decode cX3_addMake 14 = .ok (.if_icmp .ge 49, 3) := by decide +kernel
theorem dX3_addMake_17 : decode cX3_addMake 17 = .ok (.aload_n 0, 1) := by decide +kernel
theorem dX3_addMake_18 : decode cX3_addMake 18 = .ok (.getfield 25, 3) := by decide +kernel
theorem dX3_addMake_21 : decode cX3_addMake 21 = .ok (.aload_n 0, 1) := by decide +kernel
theorem dX3_addMake_22 : decode cX3_addMake 22 = .ok (.getfield 32, 3) := by decide +kernel
theorem dX3_addMake_25 : decode cX3_addMake 25 = .ok (.iload_n 1, 1) := by decide +kernel
theorem dX3_addMake_26 : decode cX3_addMake 26 = .ok (.iastore, 1) := by decide +kernel
theorem dX3_addMake_27 : decode cX3_addMake 27 = .ok (.aload_n 0, 1) := by decide +kernel
theorem dX3_addMake_28 : decode cX3_addMake 28 = .ok (.aload_n 0, 1) := by decide +kernel
theorem dX3_addMake_29 : decode cX3_addMake 29 = .ok (.getfield 28, 3) := by decide +kernel
theorem dX3_addMake_32 : decode cX3_addMake 32 = .ok (.aload_n 0, 1) := by decide +kernel
theorem dX3_addMake_33 : decode cX3_addMake 33 = .ok (.getfield 32, 3) := by decide +kernel
theorem dX3_addMake_36 : decode cX3_addMake 36 = .ok (.iconst (-1), 1) := by decide +kernel
theorem dX3_addMake_37 : decode cX3_addMake 37 = .ok (.iload_n 1, 1) := by decide +kernel
theorem dX3_addMake_38 : decode cX3_addMake 38 = .ok (.iconst 0, 1) := by decide +kernel
theorem dX3_addMake_39 : decode cX3_addMake 39 = .ok (.iconst 0, 1) := by decide +kernel
theorem dX3_addMake_40 : decode cX3_addMake 40 = .ok (.invokevirtual 61, 3) := by decide +kernel
theorem dX3_addMake_43 : decode cX3_addMake 43 = .ok (.aload_n 0, 1) := by decide +kernel
theorem dX3_addMake_44 : decode cX3_addMake 44 = .ok (.dup, 1) := by decide +kernel
theorem dX3_addMake_45 : decode cX3_addMake 45 = .ok (.getfield 32, 3) := by decide +kernel
theorem dX3_addMake_48 : decode cX3_addMake 48 = .ok (.iconst 1, 1) := by decide +kernel
theorem dX3_addMake_49 : decode cX3_addMake 49 = .ok (.iadd, 1) := by decide +kernel
theorem dX3_addMake_50 : decode cX3_addMake 50 = .ok (.putfield 32, 3) := by decide +kernel
theorem dX3_addMake_53 : decode cX3_addMake 53 = .ok (.aload_n 0, 1) := by decide +kernel
theorem dX3_addMake_54 : decode cX3_addMake 54 = .ok (.dup, 1) := by decide +kernel
theorem dX3_addMake_55 : decode cX3_addMake 55 = .ok (.getfield 28, 3) := by decide +kernel
theorem dX3_addMake_58 : decode cX3_addMake 58 = .ok (.iconst 1, 1) := by decide +kernel
theorem dX3_addMake_59 : decode cX3_addMake 59 = .ok (.iadd, 1) := by decide +kernel
theorem dX3_addMake_60 : decode cX3_addMake 60 = .ok (.putfield 28, 3) := by decide +kernel
theorem dX3_addMake_63 : decode cX3_addMake 63 = .ok (.return_, 1) := by decide +kernel
theorem dX3_addCall_0 : decode cX3_addCall 0 = .ok (.aload_n 0, 1) := by decide +kernel
theorem dX3_addCall_1 : decode cX3_addCall 1 = .ok (.getfield 28, 3) := by decide +kernel
theorem dX3_addCall_4 : decode cX3_addCall 4 = .ok (.bipush 10, 2) := by decide +kernel
theorem dX3_addCall_6 : decode cX3_addCall 6 = .ok (.if_icmp .ge 28, 3) := by decide +kernel
theorem dX3_addCall_9 : decode cX3_addCall 9 = .ok (.aload_n 0, 1) := by decide +kernel
theorem dX3_addCall_10 : decode cX3_addCall 10 = .ok (.aload_n 0, 1) := by decide +kernel
theorem dX3_addCall_11 : decode cX3_addCall 11 = .ok (.getfield 28, 3) := by decide +kernel
theorem dX3_addCall_14 : decode cX3_addCall 14 = .ok (.iload_n 1, 1) := by decide +kernel
theorem dX3_addCall_15 : decode cX3_addCall 15 = .ok (.iload_n 2, 1) := by decide +kernel
theorem dX3_addCall_16 : decode cX3_addCall 16 = .ok (.iload_n 3, 1) := by decide +kernel
theorem dX3_addCall_17 : decode cX3_addCall 17 = .ok (.iload 4, 2) := by decide +kernel
theorem dX3_addCall_19 : decode cX3_addCall 19 = .ok (.iload 5, 2) := by decide +kernel
theorem dX3_addCall_21 : decode cX3_addCall 21 = .ok (.invokevirtual 61, 3) := by decide +kernel
theorem dX3_addCall_24 : decode cX3_addCall 24 = .ok (.aload_n 0, 1) := by decide +kernel
theorem dX3_addCall_25 : decode cX3_addCall 25 = .ok (.dup, 1) := by decide +kernel
theorem dX3_addCall_26 : decode cX3_addCall 26 = .ok (.getfield 28, 3) := by decide +kernel
theorem dX3_addCall_29 : decode cX3_addCall 29 = .ok (.iconst 1, 1) := by decide +kernel
theorem dX3_addCall_30 : decode cX3_addCall 30 = .ok (.iadd, 1) := by decide +kernel
theorem dX3_addCall_31 : decode cX3_addCall 31 = .ok (.putfield 28, 3) := by decide +kernel
theorem dX3_addCall_34 : decode cX3_addCall 34 = .ok (.return_, 1) := by decide +kernel
theorem dX3_setTo_0 : decode cX3_setTo 0 = .ok (.aload_n 0, 1) := by decide +kernel
theorem dX3_setTo_1 : decode cX3_setTo 1 = .ok (.getfield 13, 3) := by decide +kernel
theorem dX3_setTo_4 : decode cX3_setTo 4 = .ok (.iload_n 1, 1) := by decide +kernel
theorem dX3_setTo_5 : decode cX3_setTo 5 = .ok (.iload_n 2, 1) := by decide +kernel
theorem dX3_setTo_6 : decode cX3_setTo 6 = .ok (.iastore, 1) := by decide +kernel
theorem dX3_setTo_7 : decode cX3_setTo 7 = .ok (.aload_n 0, 1) := by decide +kernel
theorem dX3_setTo_8 : decode cX3_setTo 8 = .ok (.getfield 17, 3) := by decide +kernel
theorem dX3_setTo_11 : decode cX3_setTo 11 = .ok (.iload_n 1, 1) := by decide +kernel
theorem dX3_setTo_12 : decode cX3_setTo 12 = .ok (.iload_n 3, 1) := by decide +kernel
theorem dX3_setTo_13 : decode cX3_setTo 13 = .ok (.iastore, 1) := by decide +kernel
theorem dX3_setTo_14 : decode cX3_setTo 14 = .ok (.aload_n 0, 1) := by decide +kernel
theorem dX3_setTo_15 : decode cX3_setTo 15 = .ok (.getfield 22, 3) := by decide +kernel
theorem dX3_setTo_18 : decode cX3_setTo 18 = .ok (.iload_n 1, 1) := by decide +kernel
theorem dX3_setTo_19 : decode cX3_setTo 19 = .ok (.aaload, 1) := by decide +kernel
theorem dX3_setTo_20 : decode cX3_setTo 20 = .ok (.iconst 0, 1) := by decide +kernel
theorem dX3_setTo_21 : decode cX3_setTo 21 = .ok (.iload 4, 2) := by decide +kernel
theorem dX3_setTo_23 : decode cX3_setTo 23 = .ok (.iastore, 1) := by decide +kernel
theorem dX3_setTo_24 : decode cX3_setTo 24 = .ok (.aload_n 0, 1) := by decide +kernel
theorem dX3_setTo_25 : decode cX3_setTo 25 = .ok (.getfield 22, 3) := by decide +kernel
theorem dX3_setTo_28 : decode cX3_setTo 28 = .ok (.iload_n 1, 1) := by decide +kernel
theorem dX3_setTo_29 : decode cX3_setTo 29 = .ok (.aaload, 1) := by decide +kernel
theorem dX3_setTo_30 : decode cX3_setTo 30 = .ok (.iconst 1, 1) := by decide +kernel
theorem dX3_setTo_31 : decode cX3_setTo 31 = .ok (.iload 5, 2) := by decide +kernel
theorem dX3_setTo_33 : decode cX3_setTo 33 = .ok (.iastore, 1) := by decide +kernel
theorem dX3_setTo_34 : decode cX3_setTo 34 = .ok (.aload_n 0, 1) := by decide +kernel
theorem dX3_setTo_35 : decode cX3_setTo 35 = .ok (.getfield 22, 3) := by decide +kernel
theorem dX3_setTo_38 : decode cX3_setTo 38 = .ok (.iload_n 1, 1) := by decide +kernel
theorem dX3_setTo_39 : decode cX3_setTo 39 = .ok (.aaload, 1) := by decide +kernel
theorem dX3_setTo_40 : decode cX3_setTo 40 = .ok (.iconst 2, 1) := by decide +kernel
theorem dX3_setTo_41 : decode cX3_setTo 41 = .ok (.iload 6, 2) := by decide +kernel
theorem dX3_setTo_43 : decode cX3_setTo 43 = .ok (.iastore, 1) := by decide +kernel
theorem dX3_setTo_44 : decode cX3_setTo 44 = .ok (.return_, 1) := by decide +kernel
theorem dX3_copyFrom_0 : decode cX3_copyFrom 0 = .ok (.aload_n 0, 1) := by decide +kernel
theorem dX3_copyFrom_1 : decode cX3_copyFrom 1 = .ok (.aload_n 1, 1) := by decide +kernel
theorem dX3_copyFrom_2 : decode cX3_copyFrom 2 = .ok (.getfield 28, 3) := by decide +kernel
theorem dX3_copyFrom_5 : decode cX3_copyFrom 5 = .ok (.putfield 28, 3) := by decide +kernel
theorem dX3_copyFrom_8 : decode cX3_copyFrom 8 = .ok (.aload_n 0, 1) := by decide +kernel
theorem dX3_copyFrom_9 : decode cX3_copyFrom 9 = .ok (.aload_n 1, 1) := by decide +kernel
theorem dX3_copyFrom_10 : decode cX3_copyFrom 10 = .ok (.getfield 32, 3) := by decide +kernel
theorem dX3_copyFrom_13 : decode cX3_copyFrom 13 = .ok (.putfield 32, 3) := by decide +kernel
theorem dX3_copyFrom_16 : decode cX3_copyFrom 16 = .ok (.aload_n 1, 1) := by decide +kernel
theorem dX3_copyFrom_17 : decode cX3_copyFrom 17 = .ok (.getfield 13, 3) := by decide +kernel
theorem dX3_copyFrom_20 : decode cX3_copyFrom 20 = .ok (.iconst 0, 1) := by decide +kernel
theorem dX3_copyFrom_21 : decode cX3_copyFrom 21 = .ok (.aload_n 0, 1) := by decide +kernel
theorem dX3_copyFrom_22 : decode cX3_copyFrom 22 = .ok (.getfield 13, 3) := by decide +kernel
theorem dX3_copyFrom_25 : decode cX3_copyFrom 25 = .ok (.iconst 0, 1) := by decide +kernel
theorem dX3_copyFrom_26 : decode cX3_copyFrom 26 = .ok (.bipush 10, 2) := by decide +kernel
theorem dX3_copyFrom_28 : decode cX3_copyFrom 28 = .ok (.invokestatic 65, 3) := by decide +kernel
theorem dX3_copyFrom_31 : decode cX3_copyFrom 31 = .ok (.aload_n 1, 1) := by decide +kernel
theorem dX3_copyFrom_32 : decode cX3_copyFrom 32 = .ok (.getfield 17, 3) := by decide +kernel
theorem dX3_copyFrom_35 : decode cX3_copyFrom 35 = .ok (.iconst 0, 1) := by decide +kernel
theorem dX3_copyFrom_36 : decode cX3_copyFrom 36 = .ok (.aload_n 0, 1) := by decide +kernel
theorem dX3_copyFrom_37 : decode cX3_copyFrom 37 = .ok (.getfield 17, 3) := by decide +kernel
theorem dX3_copyFrom_40 : decode cX3_copyFrom 40 = .ok (.iconst 0, 1) := by decide +kernel
theorem dX3_copyFrom_41 : decode cX3_copyFrom 41 = .ok (.bipush 10, 2) := by decide +kernel
theorem dX3_copyFrom_43 : decode cX3_copyFrom 43 = .ok (.invokestatic 65, 3) := by decide +kernel
theorem dX3_copyFrom_46 : decode cX3_copyFrom 46 = .ok (.aload_n 1, 1) := by decide +kernel
theorem dX3_copyFrom_47 : decode cX3_copyFrom 47 = .ok (.getfield 25, 3) := by decide +kernel
theorem dX3_copyFrom_50 : decode cX3_copyFrom 50 = .ok (.iconst 0, 1) := by decide +kernel
theorem dX3_copyFrom_51 : decode cX3_copyFrom 51 = .ok (.aload_n 0, 1) := by decide +kernel
theorem dX3_copyFrom_52 : decode cX3_copyFrom 52 = .ok (.getfield 25, 3) := by decide +kernel
theorem dX3_copyFrom_55 : decode cX3_copyFrom 55 = .ok (.iconst 0, 1) := by decide +kernel
theorem dX3_copyFrom_56 : decode cX3_copyFrom 56 = .ok (.iconst 3, 1) := by decide +kernel
theorem dX3_copyFrom_57 : decode cX3_copyFrom 57 = .ok (.invokestatic 65, 3) := by decide +kernel
theorem dX3_copyFrom_60 : decode cX3_copyFrom 60 = .ok (.iconst 0, 1) := by decide +kernel
theorem dX3_copyFrom_61 : decode cX3_copyFrom 61 = .ok (.istore_n 2, 1) := by decide +kernel
theorem dX3_copyFrom_62 : decode cX3_copyFrom 62 = .ok (.iload_n 2, 1) := by decide +kernel
theorem dX3_copyFrom_63 : decode cX3_copyFrom 63 = .ok (.bipush 10, 2) := by decide +kernel
theorem dX3_copyFrom_65 : decode cX3_copyFrom 65 = .ok (.if_icmp .ge 27, 3) := by decide +kernel
theorem dX3_copyFrom_68 : decode cX3_copyFrom 68 = .ok (.aload_n 1, 1) := by decide +kernel
theorem dX3_copyFrom_69 : decode cX3_copyFrom 69 = .ok (.getfield 22, 3) := by decide +kernel
theorem dX3_copyFrom_72 : decode cX3_copyFrom 72 = .ok (.iload_n 2, 1) := by decide +kernel
theorem dX3_copyFrom_73 : decode cX3_copyFrom 73 = .ok (.aaload, 1) := by decide +kernel
theorem dX3_copyFrom_74 : decode cX3_copyFrom 74 = .ok (.iconst 0, 1) := by decide +kernel
theorem dX3_copyFrom_75 : decode cX3_copyFrom 75 = .ok (.aload_n 0, 1) := by decide +kernel
theorem dX3_copyFrom_76 : decode cX3_copyFrom 76 = .ok (.getfield 22, 3) := by decide +kernel
theorem dX3_copyFrom_79 : decode cX3_copyFrom 79 = .ok (.iload_n 2, 1) := by decide +kernel
theorem dX3_copyFrom_80 : decode cX3_copyFrom 80 = .ok (.aaload, 1) := by decide +kernel
theorem dX3_copyFrom_81 : decode cX3_copyFrom 81 = .ok (.iconst 0, 1) := by decide +kernel
theorem dX3_copyFrom_82 : decode cX3_copyFrom 82 = .ok (.iconst 3, 1) := by decide +kernel
theorem dX3_copyFrom_83 : decode cX3_copyFrom 83 = .ok (.invokestatic 65, 3) := by decide +kernel
theorem dX3_copyFrom_86 : decode cX3_copyFrom 86 = .ok (.iinc 2 1, 3) := by decide +kernel
theorem dX3_copyFrom_89 : decode cX3_copyFrom 89 = .ok (.goto (-27), 3) := by decide +kernel
theorem dX3_copyFrom_92 : decode cX3_copyFrom 92 = .ok (.return_, 1) := by decide +kernel
theorem dX4_wipe_0 : decode cX4_wipe 0 = .ok (.aload_n 0, 1) := by decide +kernel
theorem dX4_wipe_1 : decode cX4_wipe 1 = .ok (.iconst 0, 1) := by decide +kernel
theorem dX4_wipe_2 : decode cX4_wipe 2 = .ok (.putfield 52, 3) := by decide +kernel
theorem dX4_wipe_5 : decode cX4_wipe 5 = .ok (.aload_n 0, 1) := by decide +kernel
theorem dX4_wipe_6 : decode cX4_wipe 6 = .ok (.iconst (-1), 1) := by decide +kernel
theorem dX4_wipe_7 : decode cX4_wipe 7 = .ok (.putfield 39, 3) := by decide +kernel
theorem dX4_wipe_10 : decode cX4_wipe 10 = .ok (.aload_n 0, 1) := by decide +kernel
theorem dX4_wipe_11 : decode cX4_wipe 11 = .ok (.iconst (-1), 1) := by decide +kernel
theorem dX4_wipe_12 : decode cX4_wipe 12 = .ok (.putfield 43, 3) := by decide +kernel
theorem dX4_wipe_15 : decode cX4_wipe 15 = .ok (.aload_n 0, 1) := by decide +kernel
theorem dX4_wipe_16 : decode cX4_wipe 16 = .ok (.iconst (-1), 1) := by decide +kernel
theorem dX4_wipe_17 : decode cX4_wipe 17 = .ok (.putfield 46, 3) := by decide +kernel
theorem dX4_wipe_20 : decode cX4_wipe 20 = .ok (.aload_n 0, 1) := by decide +kernel
theorem dX4_wipe_21 : decode cX4_wipe 21 = .ok (.iconst (-1), 1) := by decide +kernel
theorem dX4_wipe_22 : decode cX4_wipe 22 = .ok (.putfield 49, 3) := by decide +kernel
theorem dX4_wipe_25 : decode cX4_wipe 25 = .ok (.aload_n 0, 1) := by decide +kernel
theorem dX4_wipe_26 : decode cX4_wipe 26 = .ok (.lconst 0, 1) := by decide +kernel
theorem dX4_wipe_27 : decode cX4_wipe 27 = .ok (.putfield 55, 3) := by decide +kernel
theorem dX4_wipe_30 : decode cX4_wipe 30 = .ok (.aload_n 0, 1) := by decide +kernel
theorem dX4_wipe_31 : decode cX4_wipe 31 = .ok (.iconst 0, 1) := by decide +kernel
theorem dX4_wipe_32 : decode cX4_wipe 32 = .ok (.putfield 59, 3) := by decide +kernel
theorem dX4_wipe_35 : decode cX4_wipe 35 = .ok (.aload_n 0, 1) := by decide +kernel
theorem dX4_wipe_36 : decode cX4_wipe 36 = .ok (.iconst 0, 1) := by decide +kernel
theorem dX4_wipe_37 : decode cX4_wipe 37 = .ok (.putfield 62, 3) := by decide +kernel
theorem dX4_wipe_40 : decode cX4_wipe 40 = .ok (.iconst 0, 1) := by decide +kernel
theorem dX4_wipe_41 : decode cX4_wipe 41 = .ok (.istore_n 1, 1) := by decide +kernel
theorem dX4_wipe_42 : decode cX4_wipe 42 = .ok (.iload_n 1, 1) := by decide +kernel
theorem dX4_wipe_43 : decode cX4_wipe 43 = .ok (.bipush 10, 2) := by decide +kernel
theorem dX4_wipe_45 : decode cX4_wipe 45 = .ok (.if_icmp .ge 14, 3) := by decide +kernel
theorem dX4_wipe_48 : decode cX4_wipe 48 = .ok (.aload_n 0, 1) := by decide +kernel
theorem dX4_wipe_49 : decode cX4_wipe 49 = .ok (.iload_n 1, 1) := by decide +kernel
theorem dX4_wipe_50 : decode cX4_wipe 50 = .ok (.invokevirtual 65, 3) := by decide +kernel
theorem dX4_wipe_53 : decode cX4_wipe 53 = .ok (.iinc 1 1, 3) := by decide +kernel
theorem dX4_wipe_56 : decode cX4_wipe 56 = .ok (.goto (-14), 3) := by decide +kernel
theorem dX4_wipe_59 : decode cX4_wipe 59 = .ok (.return_, 1) := by decide +kernel
theorem dX4_forgetCall_0 : decode cX4_forgetCall 0 = .ok (.iload_n 1, 1) := by decide +kernel
theorem dX4_forgetCall_1 : decode cX4_forgetCall 1 = .ok (.ifCond .lt 23, 3) := by decide +kernel
theorem dX4_forgetCall_4 : decode cX4_forgetCall 4 = .ok (.iload_n 1, 1) := by decide +kernel
theorem dX4_forgetCall_5 : decode cX4_forgetCall 5 = .ok (.bipush 10, 2) := by decide +kernel
theorem dX4_forgetCall_7 : decode cX4_forgetCall 7 = .ok (.if_icmp .ge 17, 3) := by decide +kernel
theorem dX4_forgetCall_10 : decode cX4_forgetCall 10 = .ok (.aload_n 0, 1) := by decide +kernel
theorem dX4_forgetCall_11 : decode cX4_forgetCall 11 = .ok (.getfield 33, 3) := by decide +kernel
theorem dX4_forgetCall_14 : decode cX4_forgetCall 14 = .ok (.iload_n 1, 1) := by decide +kernel
theorem dX4_forgetCall_15 : decode cX4_forgetCall 15 = .ok (.iconst 0, 1) := by decide +kernel
theorem dX4_forgetCall_16 : decode cX4_forgetCall 16 = .ok (.iastore, 1) := by decide +kernel
theorem dX4_forgetCall_17 : decode cX4_forgetCall 17 = .ok (.aload_n 0, 1) := by decide +kernel
theorem dX4_forgetCall_18 : decode cX4_forgetCall 18 = .ok (.getfield 36, 3) := by decide +kernel
theorem dX4_forgetCall_21 : decode cX4_forgetCall 21 = .ok (.iload_n 1, 1) := by decide +kernel
theorem dX4_forgetCall_22 : decode cX4_forgetCall 22 = .ok (.iconst 0, 1) := by decide +kernel
theorem dX4_forgetCall_23 : decode cX4_forgetCall 23 = .ok (.iastore, 1) := by decide +kernel
theorem dX4_forgetCall_24 : decode cX4_forgetCall 24 = .ok (.return_, 1) := by decide +kernel
theorem dX4_breakBy_0 : decode cX4_breakBy 0 = .ok (.aload_n 0, 1) := by decide +kernel
theorem dX4_breakBy_1 : decode cX4_breakBy 1 = .ok (.iload_n 1, 1) := by decide +kernel
theorem dX4_breakBy_2 : decode cX4_breakBy 2 = .ok (.putfield 52, 3) := by decide +kernel
theorem dX4_breakBy_5 : decode cX4_breakBy 5 = .ok (.aload_n 0, 1) := by decide +kernel
theorem dX4_breakBy_6 : decode cX4_breakBy 6 = .ok (.iload_n 2, 1) := by decide +kernel
theorem dX4_breakBy_7 : decode cX4_breakBy 7 = .ok (.putfield 39, 3) := by decide +kernel
theorem dX4_breakBy_10 : decode cX4_breakBy 10 = .ok (.aload_n 0, 1) := by decide +kernel
theorem dX4_breakBy_11 : decode cX4_breakBy 11 = .ok (.iload_n 3, 1) := by decide +kernel
theorem dX4_breakBy_12 : decode cX4_breakBy 12 = .ok (.putfield 43, 3) := by decide +kernel
theorem dX4_breakBy_15 : decode cX4_breakBy 15 = .ok (.return_, 1) := by decide +kernel
theorem dX4_breakAt_0 : decode cX4_breakAt 0 = .ok (.aload_n 0, 1) := by decide +kernel
theorem dX4_breakAt_1 : decode cX4_breakAt 1 = .ok (.iload_n 1, 1) := by decide +kernel
theorem dX4_breakAt_2 : decode cX4_breakAt 2 = .ok (.putfield 52, 3) := by decide +kernel
theorem dX4_breakAt_5 : decode cX4_breakAt 5 = .ok (.aload_n 0, 1) := by decide +kernel
theorem dX4_breakAt_6 : decode cX4_breakAt 6 = .ok (.iload_n 2, 1) := by decide +kernel
theorem dX4_breakAt_7 : decode cX4_breakAt 7 = .ok (.putfield 46, 3) := by decide +kernel
theorem dX4_breakAt_10 : decode cX4_breakAt 10 = .ok (.aload_n 0, 1) := by decide +kernel
theorem dX4_breakAt_11 : decode cX4_breakAt 11 = .ok (.iload_n 3, 1) := by decide +kernel
theorem dX4_breakAt_12 : decode cX4_breakAt 12 = .ok (.putfield 49, 3) := by decide +kernel
theorem dX4_breakAt_15 : decode cX4_breakAt 15 = .ok (.return_, 1) := by decide +kernel
theorem dX4_brokenPlace_0 : decode cX4_brokenPlace 0 = .ok (.aload_n 0, 1) := by decide +kernel
theorem dX4_brokenPlace_1 : decode cX4_brokenPlace 1 = .ok (.getfield 39, 3) := by decide +kernel
theorem dX4_brokenPlace_4 : decode cX4_brokenPlace 4 = .ok (.ifCond .lt 26, 3) := by decide +kernel
theorem dX4_brokenPlace_7 : decode cX4_brokenPlace 7 = .ok (.aload_n 0, 1) := by decide +kernel
theorem dX4_brokenPlace_8 : decode cX4_brokenPlace 8 = .ok (.getfield 39, 3) := by decide +kernel
theorem dX4_brokenPlace_11 : decode cX4_brokenPlace 11 = .ok (.aload_n 1, 1) := by decide +kernel
theorem dX4_brokenPlace_12 : decode cX4_brokenPlace 12 = .ok (.getfield 69, 3) := by decide +kernel
theorem dX4_brokenPlace_15 : decode cX4_brokenPlace 15 = .ok (.if_icmp .ge 15, 3) := by decide +kernel
theorem dX4_brokenPlace_18 : decode cX4_brokenPlace 18 = .ok (.aload_n 1, 1) := by decide +kernel
theorem dX4_brokenPlace_19 : decode cX4_brokenPlace 19 = .ok (.getfield 74, 3) := by decide +kernel
theorem dX4_brokenPlace_22 : decode cX4_brokenPlace 22 = .ok (.aload_n 0, 1) := by decide +kernel
theorem dX4_brokenPlace_23 : decode cX4_brokenPlace 23 = .ok (.getfield 39, 3) := by decide +kernel
theorem dX4_brokenPlace_26 : decode cX4_brokenPlace 26 = .ok (.iaload, 1) := by decide +kernel
theorem dX4_brokenPlace_27 : decode cX4_brokenPlace 27 = .ok (.goto 4, 3) := by decide +kernel
theorem dX4_brokenPlace_30 : decode cX4_brokenPlace 30 = .ok (.iconst (-1), 1) := by decide +kernel
theorem dX4_brokenPlace_31 : decode cX4_brokenPlace 31 = .ok (.ireturn, 1) := by decide +kernel
theorem dX5_leaveMember_0 : decode cX5_leaveMember 0 = .ok (.aload_n 0, 1) := by decide +kernel
theorem dX5_leaveMember_1 : decode cX5_leaveMember 1 = .ok (.iconst 0, 1) := by decide +kernel
theorem dX5_leaveMember_2 : decode cX5_leaveMember 2 = .ok (.putfield 18, 3) := by decide +kernel
theorem dX5_leaveMember_5 : decode cX5_leaveMember 5 = .ok (.aload_n 0, 1) := by decide +kernel
theorem dX5_leaveMember_6 : decode cX5_leaveMember 6 = .ok (.iconst 0, 1) := by decide +kernel
theorem dX5_leaveMember_7 : decode cX5_leaveMember 7 = .ok (.putfield 22, 3) := by decide +kernel
theorem dX5_leaveMember_10 : decode cX5_leaveMember 10 = .ok (.aload_n 0, 1) := by decide +kernel
theorem dX5_leaveMember_11 : decode cX5_leaveMember 11 = .ok (.iconst 0, 1) := by decide +kernel
theorem dX5_leaveMember_12 : decode cX5_leaveMember 12 = .ok (.putfield 25, 3) := by decide +kernel
theorem dX5_leaveMember_15 : decode cX5_leaveMember 15 = .ok (.aload_n 0, 1) := by decide +kernel
theorem dX5_leaveMember_16 : decode cX5_leaveMember 16 = .ok (.iconst 0, 1) := by decide +kernel
theorem dX5_leaveMember_17 : decode cX5_leaveMember 17 = .ok (.putfield 29, 3) := by decide +kernel
theorem dX5_leaveMember_20 : decode cX5_leaveMember 20 = .ok (.return_, 1) := by decide +kernel
theorem dX5_placeNamed_0 : decode cX5_placeNamed 0 = .ok (.iconst 0, 1) := by decide +kernel
theorem dX5_placeNamed_1 : decode cX5_placeNamed 1 = .ok (.istore_n 3, 1) := by decide +kernel
theorem dX5_placeNamed_2 : decode cX5_placeNamed 2 = .ok (.iload_n 3, 1) := by decide +kernel
theorem dX5_placeNamed_3 : decode cX5_placeNamed 3 = .ok (.aload_n 0, 1) := by decide +kernel
theorem dX5_placeNamed_4 : decode cX5_placeNamed 4 = .ok (.getfield 22, 3) := by decide +kernel
theorem dX5_placeNamed_7 : decode cX5_placeNamed 7 = .ok (.if_icmp .ge 25, 3) := by decide +kernel
theorem dX5_placeNamed_10 : decode cX5_placeNamed 10 = .ok (.aload_n 0, 1) := by decide +kernel
theorem dX5_placeNamed_11 : decode cX5_placeNamed 11 = .ok (.getfield 15, 3) := by decide +kernel
theorem dX5_placeNamed_14 : decode cX5_placeNamed 14 = .ok (.iload_n 3, 1) := by decide +kernel
theorem dX5_placeNamed_15 : decode cX5_placeNamed 15 = .ok (.laload, 1) := by decide +kernel
theorem dX5_placeNamed_16 : decode cX5_placeNamed 16 = .ok (.lload_n 1, 1) := by decide +kernel
theorem dX5_placeNamed_17 : decode cX5_placeNamed 17 = .ok (.lcmp, 1) := by decide +kernel
theorem dX5_placeNamed_18 : decode cX5_placeNamed 18 = .ok (.ifCond .ne 8, 3) := by decide +kernel
theorem dX5_placeNamed_21 : decode cX5_placeNamed 21 = .ok (.bipush 19, 2) := by decide +kernel
theorem dX5_placeNamed_23 : decode cX5_placeNamed 23 = .ok (.iload_n 3, 1) := by decide +kernel
theorem dX5_placeNamed_24 : decode cX5_placeNamed 24 = .ok (.iadd, 1) := by decide +kernel
theorem dX5_placeNamed_25 : decode cX5_placeNamed 25 = .ok (.ireturn, 1) := by decide +kernel
theorem dX5_placeNamed_26 : decode cX5_placeNamed 26 = .ok (.iinc 3 1, 3) := by decide +kernel
theorem dX5_placeNamed_29 : decode cX5_placeNamed 29 = .ok (.goto (-27), 3) := by decide +kernel
theorem dX5_placeNamed_32 : decode cX5_placeNamed 32 = .ok (.iconst 0, 1) := by decide +kernel
theorem dX5_placeNamed_33 : decode cX5_placeNamed 33 = .ok (.istore_n 3, 1) := by decide +kernel
theorem dX5_placeNamed_34 : decode cX5_placeNamed 34 = .ok (.iload_n 3, 1) := by decide +kernel
theorem dX5_placeNamed_35 : decode cX5_placeNamed 35 = .ok (.aload_n 0, 1) := by decide +kernel
theorem dX5_placeNamed_36 : decode cX5_placeNamed 36 = .ok (.getfield 18, 3) := by decide +kernel
theorem dX5_placeNamed_39 : decode cX5_placeNamed 39 = .ok (.if_icmp .ge 25, 3) := by decide +kernel
theorem dX5_placeNamed_42 : decode cX5_placeNamed 42 = .ok (.aload_n 0, 1) := by decide +kernel
theorem dX5_placeNamed_43 : decode cX5_placeNamed 43 = .ok (.getfield 9, 3) := by decide +kernel
theorem dX5_placeNamed_46 : decode cX5_placeNamed 46 = .ok (.iload_n 3, 1) := by decide +kernel
theorem dX5_placeNamed_47 : decode cX5_placeNamed 47 = .ok (.laload, 1) := by decide +kernel
theorem dX5_placeNamed_48 : decode cX5_placeNamed 48 = .ok (.lload_n 1, 1) := by decide +kernel
theorem dX5_placeNamed_49 : decode cX5_placeNamed 49 = .ok (.lcmp, 1) := by decide +kernel
theorem dX5_placeNamed_50 : decode cX5_placeNamed 50 = .ok (.ifCond .ne 8, 3) := by decide +kernel
theorem dX5_placeNamed_53 : decode cX5_placeNamed 53 = .ok (.bipush 16, 2) := by decide +kernel
theorem dX5_placeNamed_55 : decode cX5_placeNamed 55 = .ok (.iload_n 3, 1) := by decide +kernel
theorem dX5_placeNamed_56 : decode cX5_placeNamed 56 = .ok (.iadd, 1) := by decide +kernel
theorem dX5_placeNamed_57 : decode cX5_placeNamed 57 = .ok (.ireturn, 1) := by decide +kernel
theorem dX5_placeNamed_58 : decode cX5_placeNamed 58 = .ok (.iinc 3 1, 3) := by decide +kernel
theorem dX5_placeNamed_61 : decode cX5_placeNamed 61 = .ok (.goto (-27), 3) := by decide +kernel
theorem dX5_placeNamed_64 : decode cX5_placeNamed 64 = .ok (.aload_n 0, 1) := by decide +kernel
theorem dX5_placeNamed_65 : decode cX5_placeNamed 65 = .ok (.getfield 32, 3) := by decide +kernel
theorem dX5_placeNamed_68 : decode cX5_placeNamed 68 = .ok (.lload_n 1, 1) := by decide +kernel
theorem dX5_placeNamed_69 : decode cX5_placeNamed 69 = .ok (.invokevirtual 36, 3) := by decide +kernel
theorem dX5_placeNamed_72 : decode cX5_placeNamed 72 = .ok (.ireturn, 1) := by decide +kernel
theorem dX6_admits_0 : decode cX6_admits 0 = .ok (.iload_n 1, 1) := by decide +kernel
theorem dX6_admits_1 : decode cX6_admits 1 = .ok (.ifCond .lt 16, 3) := by decide +kernel
theorem dX6_admits_4 : decode cX6_admits 4 = .ok (.iload_n 1, 1) := by decide +kernel
theorem dX6_admits_5 : decode cX6_admits 5 = .ok (.aload_n 0, 1) := by decide +kernel
theorem dX6_admits_6 : decode cX6_admits 6 = .ok (.getfield 16, 3) := by decide +kernel
theorem dX6_admits_9 : decode cX6_admits 9 = .ok (.if_icmp .ge 8, 3) := by decide +kernel
theorem dX6_admits_12 : decode cX6_admits 12 = .ok (.iload_n 1, 1) := by decide +kernel
theorem dX6_admits_13 : decode cX6_admits 13 = .ok (.iconst 3, 1) := by decide +kernel
theorem dX6_admits_14 : decode cX6_admits 14 = .ok (.if_icmp .lt 13, 3) := by decide +kernel
theorem dX6_admits_17 : decode cX6_admits 17 = .ok (.iload_n 2, 1) := by decide +kernel
theorem dX6_admits_18 : decode cX6_admits 18 = .ok (.ifCond .ne 7, 3) := by decide +kernel
theorem dX6_admits_21 : decode cX6_admits 21 = .ok (.iconst 1, 1) := by decide +kernel
theorem dX6_admits_22 : decode cX6_admits 22 = .ok (.goto 4, 3) := by decide +kernel
theorem dX6_admits_25 : decode cX6_admits 25 = .ok (.iconst 0, 1) := by decide +kernel
theorem dX6_admits_26 : decode cX6_admits 26 = .ok (.ireturn, 1) := by decide +kernel
theorem dX6_admits_27 : decode cX6_admits 27 = .ok (.iload_n 2, 1) := by decide +kernel
theorem dX6_admits_28 : decode cX6_admits 28 = .ok (.aload_n 0, 1) := by decide +kernel
theorem dX6_admits_29 : decode cX6_admits 29 = .ok (.getfield 9, 3) := by decide +kernel
theorem dX6_admits_32 : decode cX6_admits 32 = .ok (.iload_n 1, 1) := by decide +kernel
theorem dX6_admits_33 : decode cX6_admits 33 = .ok (.iaload, 1) := by decide +kernel
theorem dX6_admits_34 : decode cX6_admits 34 = .ok (.if_icmp .lt 17, 3) := by decide +kernel
theorem dX6_admits_37 : decode cX6_admits 37 = .ok (.iload_n 2, 1) := by decide +kernel
theorem dX6_admits_38 : decode cX6_admits 38 = .ok (.aload_n 0, 1) := by decide +kernel
theorem dX6_admits_39 : decode cX6_admits 39 = .ok (.getfield 13, 3) := by decide +kernel
theorem dX6_admits_42 : decode cX6_admits 42 = .ok (.iload_n 1, 1) := by decide +kernel
theorem dX6_admits_43 : decode cX6_admits 43 = .ok (.iaload, 1) := by decide +kernel
theorem dX6_admits_44 : decode cX6_admits 44 = .ok (.if_icmp .gt 7, 3) := by decide +kernel
theorem dX6_admits_47 : decode cX6_admits 47 = .ok (.iconst 1, 1) := by decide +kernel
theorem dX6_admits_48 : decode cX6_admits 48 = .ok (.goto 4, 3) := by decide +kernel
theorem dX6_admits_51 : decode cX6_admits 51 = .ok (.iconst 0, 1) := by decide +kernel
theorem dX6_admits_52 : decode cX6_admits 52 = .ok (.ireturn, 1) := by decide +kernel
theorem dX6_firstOf_0 : decode cX6_firstOf 0 = .ok (.iload_n 1, 1) := by decide +kernel
theorem dX6_firstOf_1 : decode cX6_firstOf 1 = .ok (.ifCond .lt 8, 3) := by decide +kernel
theorem dX6_firstOf_4 : decode cX6_firstOf 4 = .ok (.iload_n 1, 1) := by decide +kernel
theorem dX6_firstOf_5 : decode cX6_firstOf 5 = .ok (.iconst 3, 1) := by decide +kernel
theorem dX6_firstOf_6 : decode cX6_firstOf 6 = .ok (.if_icmp .lt 5, 3) := by decide +kernel
theorem dX6_firstOf_9 : decode cX6_firstOf 9 = .ok (.iconst 0, 1) := by decide +kernel
theorem dX6_firstOf_10 : decode cX6_firstOf 10 = .ok (.ireturn, 1) := by decide +kernel
theorem dX6_firstOf_11 : decode cX6_firstOf 11 = .ok (.aload_n 0, 1) := by decide +kernel
theorem dX6_firstOf_12 : decode cX6_firstOf 12 = .ok (.getfield 9, 3) := by decide +kernel
theorem dX6_firstOf_15 : decode cX6_firstOf 15 = .ok (.iload_n 1, 1) := by decide +kernel
theorem dX6_firstOf_16 : decode cX6_firstOf 16 = .ok (.iaload, 1) := by decide +kernel
theorem dX6_firstOf_17 : decode cX6_firstOf 17 = .ok (.ifCond .gt 16, 3) := by decide +kernel
theorem dX6_firstOf_20 : decode cX6_firstOf 20 = .ok (.aload_n 0, 1) := by decide +kernel
theorem dX6_firstOf_21 : decode cX6_firstOf 21 = .ok (.getfield 13, 3) := by decide +kernel
theorem dX6_firstOf_24 : decode cX6_firstOf 24 = .ok (.iload_n 1, 1) := by decide +kernel
theorem dX6_firstOf_25 : decode cX6_firstOf 25 = .ok (.iaload, 1) := by decide +kernel
theorem dX6_firstOf_26 : decode cX6_firstOf 26 = .ok (.ifCond .lt 7, 3) := by decide +kernel
theorem dX6_firstOf_29 : decode cX6_firstOf 29 = .ok (.iconst 0, 1) := by decide +kernel
theorem dX6_firstOf_30 : decode cX6_firstOf 30 = .ok (.goto 9, 3) := by decide +kernel
theorem dX6_firstOf_33 : decode cX6_firstOf 33 = .ok (.aload_n 0, 1) := by decide +kernel
theorem dX6_firstOf_34 : decode cX6_firstOf 34 = .ok (.getfield 9, 3) := by decide +kernel
theorem dX6_firstOf_37 : decode cX6_firstOf 37 = .ok (.iload_n 1, 1) := by decide +kernel
theorem dX6_firstOf_38 : decode cX6_firstOf 38 = .ok (.iaload, 1) := by decide +kernel
theorem dX6_firstOf_39 : decode cX6_firstOf 39 = .ok (.ireturn, 1) := by decide +kernel
theorem dX6_numberBehind_0 : decode cX6_numberBehind 0 = .ok (.iload_n 1, 1) := by decide +kernel
theorem dX6_numberBehind_1 : decode cX6_numberBehind 1 = .ok (.ifCond .lt 8, 3) := by decide +kernel
theorem dX6_numberBehind_4 : decode cX6_numberBehind 4 = .ok (.iload_n 1, 1) := by decide +kernel
theorem dX6_numberBehind_5 : decode cX6_numberBehind 5 = .ok (.iconst 3, 1) := by decide +kernel
theorem dX6_numberBehind_6 : decode cX6_numberBehind 6 = .ok (.if_icmp .lt 5, 3) := by decide +kernel
theorem dX6_numberBehind_9 : decode cX6_numberBehind 9 = .ok (.iload_n 2, 1) := by decide +kernel
theorem dX6_numberBehind_10 : decode cX6_numberBehind 10 = .ok (.ireturn, 1) := by decide +kernel
theorem dX6_numberBehind_11 : decode cX6_numberBehind 11 = .ok (.iload_n 2, 1) := by decide +kernel
theorem dX6_numberBehind_12 : decode cX6_numberBehind 12 = .ok (.ifCond .ge 24, 3) := by decide +kernel
theorem dX6_numberBehind_15 : decode cX6_numberBehind 15 = .ok (.iload_n 2, 1) := by decide +kernel
theorem dX6_numberBehind_16 : decode cX6_numberBehind 16 = .ok (.aload_n 0, 1) := by decide +kernel
theorem dX6_numberBehind_17 : decode cX6_numberBehind 17 = .ok (.getfield 9, 3) := by decide +kernel
theorem dX6_numberBehind_20 : decode cX6_numberBehind 20 = .ok (.iload_n 1, 1) := by decide +kernel
theorem dX6_numberBehind_21 : decode cX6_numberBehind 21 = .ok (.iaload, 1) := by decide +kernel
theorem dX6_numberBehind_22 : decode cX6_numberBehind 22 = .ok (.if_icmp .ne 14, 3) := by decide +kernel
theorem dX6_numberBehind_25 : decode cX6_numberBehind 25 = .ok (.aload_n 0, 1) := by decide +kernel
theorem dX6_numberBehind_26 : decode cX6_numberBehind 26 = .ok (.getfield 13, 3) := by decide +kernel
theorem dX6_numberBehind_29 : decode cX6_numberBehind 29 = .ok (.iload_n 1, 1) := by decide +kernel
theorem dX6_numberBehind_30 : decode cX6_numberBehind 30 = .ok (.iaload, 1) := by decide +kernel
theorem dX6_numberBehind_31 : decode cX6_numberBehind 31 = .ok (.ifCond .le 5, 3) := by decide +kernel
theorem dX6_numberBehind_34 : decode cX6_numberBehind 34 = .ok (.iconst 0, 1) := by decide +kernel
theorem dX6_numberBehind_35 : decode cX6_numberBehind 35 = .ok (.ireturn, 1) := by decide +kernel
theorem dX6_numberBehind_36 : decode cX6_numberBehind 36 = .ok (.aload_n 0, 1) := by decide +kernel
theorem dX6_numberBehind_37 : decode cX6_numberBehind 37 = .ok (.getfield 13, 3) := by decide +kernel
theorem dX6_numberBehind_40 : decode cX6_numberBehind 40 = .ok (.iload_n 1, 1) := by decide +kernel
theorem dX6_numberBehind_41 : decode cX6_numberBehind 41 = .ok (.iaload, 1) := by decide +kernel
theorem dX6_numberBehind_42 : decode cX6_numberBehind 42 = .ok (.ireturn, 1) := by decide +kernel
theorem dX7_wipe_0 : decode cX7_wipe 0 = .ok (.aload_n 0, 1) := by decide +kernel
theorem dX7_wipe_1 : decode cX7_wipe 1 = .ok (.iconst 0, 1) := by decide +kernel
theorem dX7_wipe_2 : decode cX7_wipe 2 = .ok (.putfield 58, 3) := by decide +kernel
theorem dX7_wipe_5 : decode cX7_wipe 5 = .ok (.aload_n 0, 1) := by decide +kernel
theorem dX7_wipe_6 : decode cX7_wipe 6 = .ok (.iconst 0, 1) := by decide +kernel
theorem dX7_wipe_7 : decode cX7_wipe 7 = .ok (.putfield 62, 3) := by decide +kernel
theorem dX7_wipe_10 : decode cX7_wipe 10 = .ok (.aload_n 0, 1) := by decide +kernel
theorem dX7_wipe_11 : decode cX7_wipe 11 = .ok (.iconst 0, 1) := by decide +kernel
theorem dX7_wipe_12 : decode cX7_wipe 12 = .ok (.putfield 65, 3) := by decide +kernel
theorem dX7_wipe_15 : decode cX7_wipe 15 = .ok (.aload_n 0, 1) := by decide +kernel
theorem dX7_wipe_16 : decode cX7_wipe 16 = .ok (.iconst 0, 1) := by decide +kernel
theorem dX7_wipe_17 : decode cX7_wipe 17 = .ok (.putfield 68, 3) := by decide +kernel
theorem dX7_wipe_20 : decode cX7_wipe 20 = .ok (.aload_n 0, 1) := by decide +kernel
theorem dX7_wipe_21 : decode cX7_wipe 21 = .ok (.iconst 0, 1) := by decide +kernel
theorem dX7_wipe_22 : decode cX7_wipe 22 = .ok (.putfield 71, 3) := by decide +kernel
theorem dX7_wipe_25 : decode cX7_wipe 25 = .ok (.aload_n 0, 1) := by decide +kernel
theorem dX7_wipe_26 : decode cX7_wipe 26 = .ok (.iconst 0, 1) := by decide +kernel
theorem dX7_wipe_27 : decode cX7_wipe 27 = .ok (.putfield 74, 3) := by decide +kernel
theorem dX7_wipe_30 : decode cX7_wipe 30 = .ok (.aload_n 0, 1) := by decide +kernel
theorem dX7_wipe_31 : decode cX7_wipe 31 = .ok (.iconst 0, 1) := by decide +kernel
theorem dX7_wipe_32 : decode cX7_wipe 32 = .ok (.putfield 77, 3) := by decide +kernel
theorem dX7_wipe_35 : decode cX7_wipe 35 = .ok (.return_, 1) := by decide +kernel
theorem dX7_hasClass_0 : decode cX7_hasClass 0 = .ok (.iload_n 1, 1) := by decide +kernel
theorem dX7_hasClass_1 : decode cX7_hasClass 1 = .ok (.ifCond .lt 15, 3) := by decide +kernel
theorem dX7_hasClass_4 : decode cX7_hasClass 4 = .ok (.iload_n 1, 1) := by decide +kernel
theorem dX7_hasClass_5 : decode cX7_hasClass 5 = .ok (.aload_n 0, 1) := by decide +kernel
theorem dX7_hasClass_6 : decode cX7_hasClass 6 = .ok (.getfield 58, 3) := by decide +kernel
theorem dX7_hasClass_9 : decode cX7_hasClass 9 = .ok (.if_icmp .ge 7, 3) := by decide +kernel
theorem dX7_hasClass_12 : decode cX7_hasClass 12 = .ok (.iconst 1, 1) := by decide +kernel
theorem dX7_hasClass_13 : decode cX7_hasClass 13 = .ok (.goto 4, 3) := by decide +kernel
theorem dX7_hasClass_16 : decode cX7_hasClass 16 = .ok (.iconst 0, 1) := by decide +kernel
theorem dX7_hasClass_17 : decode cX7_hasClass 17 = .ok (.ireturn, 1) := by decide +kernel
theorem dX7_hasMember_0 : decode cX7_hasMember 0 = .ok (.aload_n 0, 1) := by decide +kernel
theorem dX7_hasMember_1 : decode cX7_hasMember 1 = .ok (.iload_n 1, 1) := by decide +kernel
theorem dX7_hasMember_2 : decode cX7_hasMember 2 = .ok (.invokevirtual 80, 3) := by decide +kernel
theorem dX7_hasMember_5 : decode cX7_hasMember 5 = .ok (.ifCond .eq 24, 3) := by decide +kernel
theorem dX7_hasMember_8 : decode cX7_hasMember 8 = .ok (.iload_n 2, 1) := by decide +kernel
theorem dX7_hasMember_9 : decode cX7_hasMember 9 = .ok (.ifCond .lt 20, 3) := by decide +kernel
theorem dX7_hasMember_12 : decode cX7_hasMember 12 = .ok (.iload_n 2, 1) := by decide +kernel
theorem dX7_hasMember_13 : decode cX7_hasMember 13 = .ok (.aload_n 0, 1) := by decide +kernel
theorem dX7_hasMember_14 : decode cX7_hasMember 14 = .ok (.getfield 13, 3) := by decide +kernel
theorem dX7_hasMember_17 : decode cX7_hasMember 17 = .ok (.iload_n 1, 1) := by decide +kernel
theorem dX7_hasMember_18 : decode cX7_hasMember 18 = .ok (.aaload, 1) := by decide +kernel
theorem dX7_hasMember_19 : decode cX7_hasMember 19 = .ok (.getfield 84, 3) := by decide +kernel
theorem dX7_hasMember_22 : decode cX7_hasMember 22 = .ok (.if_icmp .ge 7, 3) := by decide +kernel
theorem dX7_hasMember_25 : decode cX7_hasMember 25 = .ok (.iconst 1, 1) := by decide +kernel
theorem dX7_hasMember_26 : decode cX7_hasMember 26 = .ok (.goto 4, 3) := by decide +kernel
theorem dX7_hasMember_29 : decode cX7_hasMember 29 = .ok (.iconst 0, 1) := by decide +kernel
theorem dX7_hasMember_30 : decode cX7_hasMember 30 = .ok (.ireturn, 1) := by decide +kernel
theorem dX7_cellsOf_0 : decode cX7_cellsOf 0 = .ok (.iload_n 1, 1) := by decide +kernel
theorem dX7_cellsOf_1 : decode cX7_cellsOf 1 = .ok (.ifCond .lt 23, 3) := by decide +kernel
theorem dX7_cellsOf_4 : decode cX7_cellsOf 4 = .ok (.iload_n 1, 1) := by decide +kernel
theorem dX7_cellsOf_5 : decode cX7_cellsOf 5 = .ok (.aload_n 0, 1) := by decide +kernel
theorem dX7_cellsOf_6 : decode cX7_cellsOf 6 = .ok (.getfield 58, 3) := by decide +kernel
theorem dX7_cellsOf_9 : decode cX7_cellsOf 9 = .ok (.if_icmp .ge 15, 3) := by decide +kernel
theorem dX7_cellsOf_12 : decode cX7_cellsOf 12 = .ok (.aload_n 0, 1) := by decide +kernel
theorem dX7_cellsOf_13 : decode cX7_cellsOf 13 = .ok (.getfield 13, 3) := by decide +kernel
theorem dX7_cellsOf_16 : decode cX7_cellsOf 16 = .ok (.iload_n 1, 1) := by decide +kernel
theorem dX7_cellsOf_17 : decode cX7_cellsOf 17 = .ok (.aaload, 1) := by decide +kernel
theorem dX7_cellsOf_18 : decode cX7_cellsOf 18 = .ok (.getfield 87, 3) := by decide +kernel
theorem dX7_cellsOf_21 : decode cX7_cellsOf 21 = .ok (.goto 4, 3) := by decide +kernel
theorem dX7_cellsOf_24 : decode cX7_cellsOf 24 = .ok (.iconst 0, 1) := by decide +kernel
theorem dX7_cellsOf_25 : decode cX7_cellsOf 25 = .ok (.ireturn, 1) := by decide +kernel
theorem dX7_classNamed_0 : decode cX7_classNamed 0 = .ok (.iconst 0, 1) := by decide +kernel
theorem dX7_classNamed_1 : decode cX7_classNamed 1 = .ok (.istore_n 3, 1) := by decide +kernel
theorem dX7_classNamed_2 : decode cX7_classNamed 2 = .ok (.iload_n 3, 1) := by decide +kernel
theorem dX7_classNamed_3 : decode cX7_classNamed 3 = .ok (.aload_n 0, 1) := by decide +kernel
theorem dX7_classNamed_4 : decode cX7_classNamed 4 = .ok (.getfield 58, 3) := by decide +kernel
theorem dX7_classNamed_7 : decode cX7_classNamed 7 = .ok (.if_icmp .ge 25, 3) := by decide +kernel
theorem dX7_classNamed_10 : decode cX7_classNamed 10 = .ok (.aload_n 0, 1) := by decide +kernel
theorem dX7_classNamed_11 : decode cX7_classNamed 11 = .ok (.getfield 13, 3) := by decide +kernel
theorem dX7_classNamed_14 : decode cX7_classNamed 14 = .ok (.iload_n 3, 1) := by decide +kernel
theorem dX7_classNamed_15 : decode cX7_classNamed 15 = .ok (.aaload, 1) := by decide +kernel
theorem dX7_classNamed_16 : decode cX7_classNamed 16 = .ok (.getfield 90, 3) := by decide +kernel
theorem dX7_classNamed_19 : decode cX7_classNamed 19 = .ok (.lload_n 1, 1) := by decide +kernel
theorem dX7_classNamed_20 : decode cX7_classNamed 20 = .ok (.lcmp, 1) := by decide +kernel
theorem dX7_classNamed_21 : decode cX7_classNamed 21 = .ok (.ifCond .ne 5, 3) := by decide +kernel
theorem dX7_classNamed_24 : decode cX7_classNamed 24 = .ok (.iload_n 3, 1) := by decide +kernel
theorem dX7_classNamed_25 : decode cX7_classNamed 25 = .ok (.ireturn, 1) := by decide +kernel
theorem dX7_classNamed_26 : decode cX7_classNamed 26 = .ok (.iinc 3 1, 3) := by decide +kernel
theorem dX7_classNamed_29 : decode cX7_classNamed 29 = .ok (.goto (-27), 3) := by decide +kernel
theorem dX7_classNamed_32 : decode cX7_classNamed 32 = .ok (.iconst (-1), 1) := by decide +kernel
theorem dX7_classNamed_33 : decode cX7_classNamed 33 = .ok (.ireturn, 1) := by decide +kernel
theorem dX7_memberNamed_0 : decode cX7_memberNamed 0 = .ok (.iconst 0, 1) := by decide +kernel
theorem dX7_memberNamed_1 : decode cX7_memberNamed 1 = .ok (.istore 4, 2) := by decide +kernel
theorem dX7_memberNamed_3 : decode cX7_memberNamed 3 = .ok (.iload 4, 2) := by decide +kernel
theorem dX7_memberNamed_5 : decode cX7_memberNamed 5 = .ok (.aload_n 1, 1) := by decide +kernel
theorem dX7_memberNamed_6 : decode cX7_memberNamed 6 = .ok (.getfield 84, 3) := by decide +kernel
theorem dX7_memberNamed_9 : decode cX7_memberNamed 9 = .ok (.if_icmp .ge 32, 3) := by decide +kernel
theorem dX7_memberNamed_12 : decode cX7_memberNamed 12 = .ok (.aload_n 0, 1) := by decide +kernel
theorem dX7_memberNamed_13 : decode cX7_memberNamed 13 = .ok (.getfield 20, 3) := by decide +kernel
theorem dX7_memberNamed_16 : decode cX7_memberNamed 16 = .ok (.aload_n 1, 1) := by decide +kernel
theorem dX7_memberNamed_17 : decode cX7_memberNamed 17 = .ok (.getfield 94, 3) := by decide +kernel
theorem dX7_memberNamed_20 : decode cX7_memberNamed 20 = .ok (.iload 4, 2) := by decide +kernel
theorem dX7_memberNamed_22 : decode cX7_memberNamed 22 = .ok (.iaload, 1) := by decide +kernel
theorem dX7_memberNamed_23 : decode cX7_memberNamed 23 = .ok (.aaload, 1) := by decide +kernel
theorem dX7_memberNamed_24 : decode cX7_memberNamed 24 = .ok (.getfield 97, 3) := by decide +kernel
theorem dX7_memberNamed_27 : decode cX7_memberNamed 27 = .ok (.lload_n 2, 1) := by decide +kernel
theorem dX7_memberNamed_28 : decode cX7_memberNamed 28 = .ok (.lcmp, 1) := by decide +kernel
theorem dX7_memberNamed_29 : decode cX7_memberNamed 29 = .ok (.ifCond .ne 6, 3) := by decide +kernel
theorem dX7_memberNamed_32 : decode cX7_memberNamed 32 = .ok (.iload 4, 2) := by decide +kernel
theorem dX7_memberNamed_34 : decode cX7_memberNamed 34 = .ok (.ireturn, 1) := by decide +kernel
theorem dX7_memberNamed_35 : decode cX7_memberNamed 35 = .ok (.iinc 4 1, 3) := by decide +kernel
theorem dX7_memberNamed_38 : decode cX7_memberNamed 38 = .ok (.goto (-35), 3) := by decide +kernel
theorem dX7_memberNamed_41 : decode cX7_memberNamed 41 = .ok (.iconst (-1), 1) := by decide +kernel
theorem dX7_memberNamed_42 : decode cX7_memberNamed 42 = .ok (.ireturn, 1) := by decide +kernel
theorem dX7_begunOf_0 : decode cX7_begunOf 0 = .ok (.iconst 0, 1) := by decide +kernel
theorem dX7_begunOf_1 : decode cX7_begunOf 1 = .ok (.istore_n 2, 1) := by decide +kernel
theorem dX7_begunOf_2 : decode cX7_begunOf 2 = .ok (.aload_n 1, 1) := by decide +kernel
theorem dX7_begunOf_3 : decode cX7_begunOf 3 = .ok (.getfield 98, 3) := by decide +kernel
theorem dX7_begunOf_6 : decode cX7_begunOf 6 = .ok (.istore_n 3, 1) := by decide +kernel
theorem dX7_begunOf_7 : decode cX7_begunOf 7 = .ok (.iload_n 3, 1) := by decide +kernel
theorem dX7_begunOf_8 : decode cX7_begunOf 8 = .ok (.aload_n 1, 1) := by decide +kernel
theorem dX7_begunOf_9 : decode cX7_begunOf 9 = .ok (.getfield 98, 3) := by decide +kernel
theorem dX7_begunOf_12 : decode cX7_begunOf 12 = .ok (.aload_n 1, 1) := by decide +kernel
theorem dX7_begunOf_13 : decode cX7_begunOf 13 = .ok (.getfield 101, 3) := by decide +kernel
theorem dX7_begunOf_16 : decode cX7_begunOf 16 = .ok (.iadd, 1) := by decide +kernel
theorem dX7_begunOf_17 : decode cX7_begunOf 17 = .ok (.if_icmp .ge 34, 3) := by decide +kernel
theorem dX7_begunOf_20 : decode cX7_begunOf 20 = .ok (.iload_n 3, 1) := by decide +kernel
theorem dX7_begunOf_21 : decode cX7_begunOf 21 = .ok (.aload_n 0, 1) := by decide +kernel
theorem dX7_begunOf_22 : decode cX7_begunOf 22 = .ok (.getfield 71, 3) := by decide +kernel
theorem dX7_begunOf_25 : decode cX7_begunOf 25 = .ok (.if_icmp .ge 26, 3) := by decide +kernel
theorem dX7_begunOf_28 : decode cX7_begunOf 28 = .ok (.iload_n 2, 1) := by decide +kernel
theorem dX7_begunOf_29 : decode cX7_begunOf 29 = .ok (.aload_n 0, 1) := by decide +kernel
theorem dX7_begunOf_30 : decode cX7_begunOf 30 = .ok (.getfield 51, 3) := by decide +kernel
theorem dX7_begunOf_33 : decode cX7_begunOf 33 = .ok (.iload_n 3, 1) := by decide +kernel
theorem dX7_begunOf_34 : decode cX7_begunOf 34 = .ok (.baload, 1) := by decide +kernel
theorem dX7_begunOf_35 : decode cX7_begunOf 35 = .ok (.ifCond .eq 7, 3) := by decide +kernel
theorem dX7_begunOf_38 : decode cX7_begunOf 38 = .ok (.iconst 1, 1) := by decide +kernel
theorem dX7_begunOf_39 : decode cX7_begunOf 39 = .ok (.goto 4, 3) := by decide +kernel
theorem dX7_begunOf_42 : decode cX7_begunOf 42 = .ok (.iconst 0, 1) := by decide +kernel
theorem dX7_begunOf_43 : decode cX7_begunOf 43 = .ok (.iadd, 1) := by decide +kernel
theorem dX7_begunOf_44 : decode cX7_begunOf 44 = .ok (.istore_n 2, 1) := by decide +kernel
theorem dX7_begunOf_45 : decode cX7_begunOf 45 = .ok (.iinc 3 1, 3) := by decide +kernel
theorem dX7_begunOf_48 : decode cX7_begunOf 48 = .ok (.goto (-41), 3) := by decide +kernel
theorem dX7_begunOf_51 : decode cX7_begunOf 51 = .ok (.iload_n 2, 1) := by decide +kernel
theorem dX7_begunOf_52 : decode cX7_begunOf 52 = .ok (.ireturn, 1) := by decide +kernel
theorem dX7_emit_0 : decode cX7_emit 0 = .ok (.aload_n 0, 1) := by decide +kernel
theorem dX7_emit_1 : decode cX7_emit 1 = .ok (.getfield 65, 3) := by decide +kernel
theorem dX7_emit_4 : decode cX7_emit 4 = .ok (.sipush 2000, 3) := by decide +kernel
theorem dX7_emit_7 : decode cX7_emit 7 = .ok (.if_icmp .ge 33, 3) := by decide +kernel
theorem dX7_emit_10 : decode cX7_emit 10 = .ok (.aload_n 0, 1) := by decide +kernel
theorem dX7_emit_11 : decode cX7_emit 11 = .ok (.getfield 25, 3) := by decide +kernel
theorem dX7_emit_14 : decode cX7_emit 14 = .ok (.aload_n 0, 1) := by decide +kernel
theorem dX7_emit_15 : decode cX7_emit 15 = .ok (.getfield 65, 3) := by decide +kernel
theorem dX7_emit_18 : decode cX7_emit 18 = .ok (.iload_n 1, 1) := by decide +kernel
theorem dX7_emit_19 : decode cX7_emit 19 = .ok (.iastore, 1) := by decide +kernel
theorem dX7_emit_20 : decode cX7_emit 20 = .ok (.aload_n 0, 1) := by decide +kernel
theorem dX7_emit_21 : decode cX7_emit 21 = .ok (.getfield 29, 3) := by decide +kernel
theorem dX7_emit_24 : decode cX7_emit 24 = .ok (.aload_n 0, 1) := by decide +kernel
theorem dX7_emit_25 : decode cX7_emit 25 = .ok (.getfield 65, 3) := by decide +kernel
theorem dX7_emit_28 : decode cX7_emit 28 = .ok (.iload_n 2, 1) := by decide +kernel
theorem dX7_emit_29 : decode cX7_emit 29 = .ok (.iastore, 1) := by decide +kernel
theorem dX7_emit_30 : decode cX7_emit 30 = .ok (.aload_n 0, 1) := by decide +kernel
theorem dX7_emit_31 : decode cX7_emit 31 = .ok (.dup, 1) := by decide +kernel
theorem dX7_emit_32 : decode cX7_emit 32 = .ok (.getfield 65, 3) := by decide +kernel
theorem dX7_emit_35 : decode cX7_emit 35 = .ok (.iconst 1, 1) := by decide +kernel
theorem dX7_emit_36 : decode cX7_emit 36 = .ok (.iadd, 1) := by decide +kernel
theorem dX7_emit_37 : decode cX7_emit 37 = .ok (.putfield 65, 3) := by decide +kernel
theorem dX7_emit_40 : decode cX7_emit 40 = .ok (.return_, 1) := by decide +kernel
theorem dX7_leadHere_0 : decode cX7_leadHere 0 = .ok (.iload_n 1, 1) := by decide +kernel
theorem dX7_leadHere_1 : decode cX7_leadHere 1 = .ok (.ifCond .lt 21, 3) := by decide +kernel
theorem dX7_leadHere_4 : decode cX7_leadHere 4 = .ok (.iload_n 1, 1) := by decide +kernel
theorem dX7_leadHere_5 : decode cX7_leadHere 5 = .ok (.aload_n 0, 1) := by decide +kernel
theorem dX7_leadHere_6 : decode cX7_leadHere 6 = .ok (.getfield 65, 3) := by decide +kernel
theorem dX7_leadHere_9 : decode cX7_leadHere 9 = .ok (.if_icmp .ge 13, 3) := by decide +kernel
theorem dX7_leadHere_12 : decode cX7_leadHere 12 = .ok (.aload_n 0, 1) := by decide +kernel
theorem dX7_leadHere_13 : decode cX7_leadHere 13 = .ok (.getfield 29, 3) := by decide +kernel
theorem dX7_leadHere_16 : decode cX7_leadHere 16 = .ok (.iload_n 1, 1) := by decide +kernel
theorem dX7_leadHere_17 : decode cX7_leadHere 17 = .ok (.aload_n 0, 1) := by decide +kernel
theorem dX7_leadHere_18 : decode cX7_leadHere 18 = .ok (.getfield 65, 3) := by decide +kernel
theorem dX7_leadHere_21 : decode cX7_leadHere 21 = .ok (.iastore, 1) := by decide +kernel
theorem dX7_leadHere_22 : decode cX7_leadHere 22 = .ok (.return_, 1) := by decide +kernel
theorem dX7_addMark_0 : decode cX7_addMark 0 = .ok (.aload_n 0, 1) := by decide +kernel
theorem dX7_addMark_1 : decode cX7_addMark 1 = .ok (.getfield 68, 3) := by decide +kernel
theorem dX7_addMark_4 : decode cX7_addMark 4 = .ok (.sipush 499, 3) := by decide +kernel
theorem dX7_addMark_7 : decode cX7_addMark 7 = .ok (.invokestatic 102, 3) := by decide +kernel
theorem dX7_addMark_10 : decode cX7_addMark 10 = .ok (.istore 4, 2) := by decide +kernel
theorem dX7_addMark_12 : decode cX7_addMark 12 = .ok (.aload_n 0, 1) := by decide +kernel
theorem dX7_addMark_13 : decode cX7_addMark 13 = .ok (.getfield 32, 3) := by decide +kernel
theorem dX7_addMark_16 : decode cX7_addMark 16 = .ok (.iload 4, 2) := by decide +kernel
theorem dX7_addMark_18 : decode cX7_addMark 18 = .ok (.iload_n 1, 1) := by decide +kernel
theorem dX7_addMark_19 : decode cX7_addMark 19 = .ok (.iastore, 1) := by decide +kernel
theorem dX7_addMark_20 : decode cX7_addMark 20 = .ok (.aload_n 0, 1) := by decide +kernel
theorem dX7_addMark_21 : decode cX7_addMark 21 = .ok (.getfield 44, 3) := by decide +kernel
theorem dX7_addMark_24 : decode cX7_addMark 24 = .ok (.iload 4, 2) := by decide +kernel
theorem dX7_addMark_26 : decode cX7_addMark 26 = .ok (.iload_n 2, 1) := by decide +kernel
theorem dX7_addMark_27 : decode cX7_addMark 27 = .ok (.iastore, 1) := by decide +kernel
theorem dX7_addMark_28 : decode cX7_addMark 28 = .ok (.aload_n 0, 1) := by decide +kernel
theorem dX7_addMark_29 : decode cX7_addMark 29 = .ok (.getfield 38, 3) := by decide +kernel
theorem dX7_addMark_32 : decode cX7_addMark 32 = .ok (.iload 4, 2) := by decide +kernel
theorem dX7_addMark_34 : decode cX7_addMark 34 = .ok (.iload_n 3, 1) := by decide +kernel
theorem dX7_addMark_35 : decode cX7_addMark 35 = .ok (.iastore, 1) := by decide +kernel
theorem dX7_addMark_36 : decode cX7_addMark 36 = .ok (.aload_n 0, 1) := by decide +kernel
theorem dX7_addMark_37 : decode cX7_addMark 37 = .ok (.getfield 35, 3) := by decide +kernel
theorem dX7_addMark_40 : decode cX7_addMark 40 = .ok (.iload 4, 2) := by decide +kernel
theorem dX7_addMark_42 : decode cX7_addMark 42 = .ok (.aload_n 0, 1) := by decide +kernel
theorem dX7_addMark_43 : decode cX7_addMark 43 = .ok (.getfield 65, 3) := by decide +kernel
theorem dX7_addMark_46 : decode cX7_addMark 46 = .ok (.iastore, 1) := by decide +kernel
theorem dX7_addMark_47 : decode cX7_addMark 47 = .ok (.aload_n 0, 1) := by decide +kernel
theorem dX7_addMark_48 : decode cX7_addMark 48 = .ok (.getfield 41, 3) := by decide +kernel
theorem dX7_addMark_51 : decode cX7_addMark 51 = .ok (.iload 4, 2) := by decide +kernel
theorem dX7_addMark_53 : decode cX7_addMark 53 = .ok (.iconst 0, 1) := by decide +kernel
theorem dX7_addMark_54 : decode cX7_addMark 54 = .ok (.iastore, 1) := by decide +kernel
theorem dX7_addMark_55 : decode cX7_addMark 55 = .ok (.aload_n 0, 1) := by decide +kernel
theorem dX7_addMark_56 : decode cX7_addMark 56 = .ok (.getfield 47, 3) := by decide +kernel
theorem dX7_addMark_59 : decode cX7_addMark 59 = .ok (.iload 4, 2) := by decide +kernel
theorem dX7_addMark_61 : decode cX7_addMark 61 = .ok (.lconst 0, 1) := by decide +kernel
theorem dX7_addMark_62 : decode cX7_addMark 62 = .ok (.lastore, 1) := by decide +kernel
theorem dX7_addMark_63 : decode cX7_addMark 63 = .ok (.aload_n 0, 1) := by decide +kernel
theorem dX7_addMark_64 : decode cX7_addMark 64 = .ok (.iload 4, 2) := by decide +kernel
theorem dX7_addMark_66 : decode cX7_addMark 66 = .ok (.iconst 1, 1) := by decide +kernel
theorem dX7_addMark_67 : decode cX7_addMark 67 = .ok (.iadd, 1) := by decide +kernel
theorem dX7_addMark_68 : decode cX7_addMark 68 = .ok (.putfield 68, 3) := by decide +kernel
theorem dX7_addMark_71 : decode cX7_addMark 71 = .ok (.iload 4, 2) := by decide +kernel
theorem dX7_addMark_73 : decode cX7_addMark 73 = .ok (.ireturn, 1) := by decide +kernel
theorem dX7_addStatement_0 : decode cX7_addStatement 0 = .ok (.aload_n 0, 1) := by decide +kernel
theorem dX7_addStatement_1 : decode cX7_addStatement 1 = .ok (.getfield 71, 3) := by decide +kernel
theorem dX7_addStatement_4 : decode cX7_addStatement 4 = .ok (.sipush 419, 3) := by decide +kernel
theorem dX7_addStatement_7 : decode cX7_addStatement 7 = .ok (.invokestatic 102, 3) := by decide +kernel
theorem dX7_addStatement_10 : decode cX7_addStatement 10 = .ok (.istore_n 1, 1) := by decide +kernel
theorem dX7_addStatement_11 : decode cX7_addStatement 11 = .ok (.aload_n 0, 1) := by decide +kernel
theorem dX7_addStatement_12 : decode cX7_addStatement 12 = .ok (.getfield 51, 3) := by decide +kernel
theorem dX7_addStatement_15 : decode cX7_addStatement 15 = .ok (.iload_n 1, 1) := by decide +kernel
theorem dX7_addStatement_16 : decode cX7_addStatement 16 = .ok (.iconst 0, 1) := by decide +kernel
theorem dX7_addStatement_17 : decode cX7_addStatement 17 = .ok (.bastore, 1) := by decide +kernel
theorem dX7_addStatement_18 : decode cX7_addStatement 18 = .ok (.aload_n 0, 1) := by decide +kernel
theorem dX7_addStatement_19 : decode cX7_addStatement 19 = .ok (.iload_n 1, 1) := by decide +kernel
theorem dX7_addStatement_20 : decode cX7_addStatement 20 = .ok (.iconst 1, 1) := by decide +kernel
theorem dX7_addStatement_21 : decode cX7_addStatement 21 = .ok (.iadd, 1) := by decide +kernel
theorem dX7_addStatement_22 : decode cX7_addStatement 22 = .ok (.putfield 71, 3) := by decide +kernel
theorem dX7_addStatement_25 : decode cX7_addStatement 25 = .ok (.iload_n 1, 1) := by decide +kernel
theorem dX7_addStatement_26 : decode cX7_addStatement 26 = .ok (.ireturn, 1) := by decide +kernel
theorem dX7_addWord_0 : decode cX7_addWord 0 = .ok (.aload_n 0, 1) := by decide +kernel
theorem dX7_addWord_1 : decode cX7_addWord 1 = .ok (.getfield 74, 3) := by decide +kernel
theorem dX7_addWord_4 : decode cX7_addWord 4 = .ok (.sipush 419, 3) := by decide +kernel
theorem dX7_addWord_7 : decode cX7_addWord 7 = .ok (.invokestatic 102, 3) := by decide +kernel
theorem dX7_addWord_10 : decode cX7_addWord 10 = .ok (.istore_n 3, 1) := by decide +kernel
theorem dX7_addWord_11 : decode cX7_addWord 11 = .ok (.aload_n 0, 1) := by decide +kernel
theorem dX7_addWord_12 : decode cX7_addWord 12 = .ok (.getfield 55, 3) := by decide +kernel
theorem dX7_addWord_15 : decode cX7_addWord 15 = .ok (.iload_n 3, 1) := by decide +kernel
theorem dX7_addWord_16 : decode cX7_addWord 16 = .ok (.lload_n 1, 1) := by decide +kernel
theorem dX7_addWord_17 : decode cX7_addWord 17 = .ok (.lastore, 1) := by decide +kernel
theorem dX7_addWord_18 : decode cX7_addWord 18 = .ok (.aload_n 0, 1) := by decide +kernel
theorem dX7_addWord_19 : decode cX7_addWord 19 = .ok (.iload_n 3, 1) := by decide +kernel
theorem dX7_addWord_20 : decode cX7_addWord 20 = .ok (.iconst 1, 1) := by decide +kernel
theorem dX7_addWord_21 : decode cX7_addWord 21 = .ok (.iadd, 1) := by decide +kernel
theorem dX7_addWord_22 : decode cX7_addWord 22 = .ok (.putfield 74, 3) := by decide +kernel
theorem dX7_addWord_25 : decode cX7_addWord 25 = .ok (.iload_n 3, 1) := by decide +kernel
theorem dX7_addWord_26 : decode cX7_addWord 26 = .ok (.ireturn, 1) := by decide +kernel
theorem dX8_codeOf_0 : decode cX8_codeOf 0 = .ok (.iload_n 0, 1) := by decide +kernel
theorem dX8_codeOf_1 : decode cX8_codeOf 1 = .ok (.bipush 97, 2) := by decide +kernel
theorem dX8_codeOf_3 : decode cX8_codeOf 3 = .ok (.if_icmp .lt 16, 3) := by decide +kernel
theorem dX8_codeOf_6 : decode cX8_codeOf 6 = .ok (.iload_n 0, 1) := by decide +kernel
theorem dX8_codeOf_7 : decode cX8_codeOf 7 = .ok (.bipush 122, 2) := by decide +kernel
theorem dX8_codeOf_9 : decode cX8_codeOf 9 = .ok (.if_icmp .gt 10, 3) := by decide +kernel
theorem dX8_codeOf_12 : decode cX8_codeOf 12 = .ok (.iload_n 0, 1) := by decide +kernel
theorem dX8_codeOf_13 : decode cX8_codeOf 13 = .ok (.bipush 97, 2) := by decide +kernel
theorem dX8_codeOf_15 : decode cX8_codeOf 15 = .ok (.isub, 1) := by decide +kernel
theorem dX8_codeOf_16 : decode cX8_codeOf 16 = .ok (.iconst 1, 1) := by decide +kernel
theorem dX8_codeOf_17 : decode cX8_codeOf 17 = .ok (.iadd, 1) := by decide +kernel
theorem dX8_codeOf_18 : decode cX8_codeOf 18 = .ok (.ireturn, 1) := by decide +kernel
theorem dX8_codeOf_19 : decode cX8_codeOf 19 = .ok (.iload_n 0, 1) := by decide +kernel
theorem dX8_codeOf_20 : decode cX8_codeOf 20 = .ok (.bipush 48, 2) := by decide +kernel
theorem dX8_codeOf_22 : decode cX8_codeOf 22 = .ok (.if_icmp .lt 17, 3) := by decide +kernel
theorem dX8_codeOf_25 : decode cX8_codeOf 25 = .ok (.iload_n 0, 1) := by decide +kernel
theorem dX8_codeOf_26 : decode cX8_codeOf 26 = .ok (.bipush 57, 2) := by decide +kernel
theorem dX8_codeOf_28 : decode cX8_codeOf 28 = .ok (.if_icmp .gt 11, 3) := by decide +kernel
theorem dX8_codeOf_31 : decode cX8_codeOf 31 = .ok (.iload_n 0, 1) := by decide +kernel
theorem dX8_codeOf_32 : decode cX8_codeOf 32 = .ok (.bipush 48, 2) := by decide +kernel
theorem dX8_codeOf_34 : decode cX8_codeOf 34 = .ok (.isub, 1) := by decide +kernel
theorem dX8_codeOf_35 : decode cX8_codeOf 35 = .ok (.bipush 27, 2) := by decide +kernel
theorem dX8_codeOf_37 : decode cX8_codeOf 37 = .ok (.iadd, 1) := by decide +kernel
theorem dX8_codeOf_38 : decode cX8_codeOf 38 = .ok (.ireturn, 1) := by decide +kernel
theorem dX8_codeOf_39 : decode cX8_codeOf 39 = .ok (.iload_n 0, 1) := by decide +kernel
theorem dX8_codeOf_40 : decode cX8_codeOf 40 = .ok (.bipush 95, 2) := by decide +kernel
theorem dX8_codeOf_42 : decode cX8_codeOf 42 = .ok (.if_icmp .ne 8, 3) := by decide +kernel
theorem dX8_codeOf_45 : decode cX8_codeOf 45 = .ok (.bipush 37, 2) := by decide +kernel
theorem dX8_codeOf_47 : decode cX8_codeOf 47 = .ok (.goto 4, 3) := by decide +kernel
theorem dX8_codeOf_50 : decode cX8_codeOf 50 = .ok (.iconst 0, 1) := by decide +kernel
theorem dX8_codeOf_51 : decode cX8_codeOf 51 = .ok (.ireturn, 1) := by decide +kernel
theorem dX8_letterOf_0 : decode cX8_letterOf 0 = .ok (.iconst 0, 1) := by decide +kernel
theorem dX8_letterOf_1 : decode cX8_letterOf 1 = .ok (.istore_n 3, 1) := by decide +kernel
theorem dX8_letterOf_2 : decode cX8_letterOf 2 = .ok (.lload_n 0, 1) := by decide +kernel
theorem dX8_letterOf_3 : decode cX8_letterOf 3 = .ok (.lstore 4, 2) := by decide +kernel
theorem dX8_letterOf_5 : decode cX8_letterOf 5 = .ok (.lload 4, 2) := by decide +kernel
theorem dX8_letterOf_7 : decode cX8_letterOf 7 = .ok (.lconst 0, 1) := by decide +kernel
theorem dX8_letterOf_8 : decode cX8_letterOf 8 = .ok (.lcmp, 1) := by decide +kernel
theorem dX8_letterOf_9 : decode cX8_letterOf 9 = .ok (.ifCond .le 23, 3) := by decide +kernel
theorem dX8_letterOf_12 : decode cX8_letterOf 12 = .ok (.iload_n 3, 1) := by decide +kernel
theorem dX8_letterOf_13 : decode cX8_letterOf 13 = .ok (.bipush 12, 2) := by decide +kernel
theorem dX8_letterOf_15 : decode cX8_letterOf 15 = .ok (.if_icmp .ge 17, 3) := by decide +kernel
theorem dX8_letterOf_18 : decode cX8_letterOf 18 = .ok (.iinc 3 1, 3) := by decide +kernel
theorem dX8_letterOf_21 : decode cX8_letterOf 21 = .ok (.lload 4, 2) := by decide +kernel
theorem dX8_letterOf_23 : decode cX8_letterOf 23 = .ok (.ldc2_w 55, 3) := by decide +kernel
theorem dX8_letterOf_26 : decode cX8_letterOf 26 = .ok (.ldiv, 1) := by decide +kernel
theorem dX8_letterOf_27 : decode cX8_letterOf 27 = .ok (.lstore 4, 2) := by decide +kernel
theorem dX8_letterOf_29 : decode cX8_letterOf 29 = .ok (.goto (-24), 3) := by decide +kernel
theorem dX8_letterOf_32 : decode cX8_letterOf 32 = .ok (.iload_n 2, 1) := by decide +kernel
theorem dX8_letterOf_33 : decode cX8_letterOf 33 = .ok (.ifCond .lt 8, 3) := by decide +kernel
theorem dX8_letterOf_36 : decode cX8_letterOf 36 = .ok (.iload_n 2, 1) := by decide +kernel
theorem dX8_letterOf_37 : decode cX8_letterOf 37 = .ok (.iload_n 3, 1) := by decide +kernel
theorem dX8_letterOf_38 : decode cX8_letterOf 38 = .ok (.if_icmp .lt 5, 3) := by decide +kernel
theorem dX8_letterOf_41 : decode cX8_letterOf 41 = .ok (.iconst (-1), 1) := by decide +kernel
theorem dX8_letterOf_42 : decode cX8_letterOf 42 = .ok (.ireturn, 1) := by decide +kernel
theorem dX8_letterOf_43 : decode cX8_letterOf 43 = .ok (.lload_n 0, 1) := by decide +kernel
theorem dX8_letterOf_44 : decode cX8_letterOf 44 = .ok (.lstore 4, 2) := by decide +kernel
theorem dX8_letterOf_46 : decode cX8_letterOf 46 = .ok (.iload_n 3, 1) := by decide +kernel
theorem dX8_letterOf_47 : decode cX8_letterOf 47 = .ok (.iconst 1, 1) := by decide +kernel
theorem dX8_letterOf_48 : decode cX8_letterOf 48 = .ok (.isub, 1) := by decide +kernel
theorem dX8_letterOf_49 : decode cX8_letterOf 49 = .ok (.istore 6, 2) := by decide +kernel
theorem dX8_letterOf_51 : decode cX8_letterOf 51 = .ok (.iload 6, 2) := by decide +kernel
theorem dX8_letterOf_53 : decode cX8_letterOf 53 = .ok (.iload_n 2, 1) := by decide +kernel
theorem dX8_letterOf_54 : decode cX8_letterOf 54 = .ok (.if_icmp .le 17, 3) := by decide +kernel
theorem dX8_letterOf_57 : decode cX8_letterOf 57 = .ok (.lload 4, 2) := by decide +kernel
theorem dX8_letterOf_59 : decode cX8_letterOf 59 = .ok (.ldc2_w 55, 3) := by decide +kernel
theorem dX8_letterOf_62 : decode cX8_letterOf 62 = .ok (.ldiv, 1) := by decide +kernel
theorem dX8_letterOf_63 : decode cX8_letterOf 63 = .ok (.lstore 4, 2) := by decide +kernel
theorem dX8_letterOf_65 : decode cX8_letterOf 65 = .ok (.iinc 6 (-1), 3) := by decide +kernel
theorem dX8_letterOf_68 : decode cX8_letterOf 68 = .ok (.goto (-17), 3) := by decide +kernel
theorem dX8_letterOf_71 : decode cX8_letterOf 71 = .ok (.lload 4, 2) := by decide +kernel
theorem dX8_letterOf_73 : decode cX8_letterOf 73 = .ok (.ldc2_w 55, 3) := by decide +kernel
theorem dX8_letterOf_76 : decode cX8_letterOf 76 = .ok (.lrem, 1) := by decide +kernel
theorem dX8_letterOf_77 : decode cX8_letterOf 77 = .ok (.l2i, 1) := by decide +kernel
theorem dX8_letterOf_78 : decode cX8_letterOf 78 = .ok (.istore 6, 2) := by decide +kernel
theorem dX8_letterOf_80 : decode cX8_letterOf 80 = .ok (.iload 6, 2) := by decide +kernel
theorem dX8_letterOf_82 : decode cX8_letterOf 82 = .ok (.bipush 37, 2) := by decide +kernel
theorem dX8_letterOf_84 : decode cX8_letterOf 84 = .ok (.if_icmp .ne 6, 3) := by decide +kernel
theorem dX8_letterOf_87 : decode cX8_letterOf 87 = .ok (.bipush 95, 2) := by decide +kernel
theorem dX8_letterOf_89 : decode cX8_letterOf 89 = .ok (.ireturn, 1) := by decide +kernel
theorem dX8_letterOf_90 : decode cX8_letterOf 90 = .ok (.iload 6, 2) := by decide +kernel
theorem dX8_letterOf_92 : decode cX8_letterOf 92 = .ok (.bipush 26, 2) := by decide +kernel
theorem dX8_letterOf_94 : decode cX8_letterOf 94 = .ok (.if_icmp .le 14, 3) := by decide +kernel
theorem dX8_letterOf_97 : decode cX8_letterOf 97 = .ok (.bipush 48, 2) := by decide +kernel
theorem dX8_letterOf_99 : decode cX8_letterOf 99 = .ok (.iload 6, 2) := by decide +kernel
theorem dX8_letterOf_101 : decode cX8_letterOf 101 = .ok (.iadd, 1) := by decide +kernel
theorem dX8_letterOf_102 : decode cX8_letterOf 102 = .ok (.bipush 27, 2) := by decide +kernel
theorem dX8_letterOf_104 : decode cX8_letterOf 104 = .ok (.isub, 1) := by decide +kernel
theorem dX8_letterOf_105 : decode cX8_letterOf 105 = .ok (.goto 10, 3) := by decide +kernel
theorem dX8_letterOf_108 : decode cX8_letterOf 108 = .ok (.bipush 97, 2) := by decide +kernel
theorem dX8_letterOf_110 : decode cX8_letterOf 110 = .ok (.iload 6, 2) := by decide +kernel
theorem dX8_letterOf_112 : decode cX8_letterOf 112 = .ok (.iadd, 1) := by decide +kernel
theorem dX8_letterOf_113 : decode cX8_letterOf 113 = .ok (.iconst 1, 1) := by decide +kernel
theorem dX8_letterOf_114 : decode cX8_letterOf 114 = .ok (.isub, 1) := by decide +kernel
theorem dX8_letterOf_115 : decode cX8_letterOf 115 = .ok (.ireturn, 1) := by decide +kernel
theorem dX8_behindBlanks_0 : decode cX8_behindBlanks 0 = .ok (.iload_n 1, 1) := by decide +kernel
theorem dX8_behindBlanks_1 : decode cX8_behindBlanks 1 = .ok (.istore_n 2, 1) := by decide +kernel
theorem dX8_behindBlanks_2 : decode cX8_behindBlanks 2 = .ok (.iload_n 2, 1) := by decide +kernel
theorem dX8_behindBlanks_3 : decode cX8_behindBlanks 3 = .ok (.aload_n 0, 1) := by decide +kernel
theorem dX8_behindBlanks_4 : decode cX8_behindBlanks 4 = .ok (.getfield 63, 3) := by decide +kernel
theorem dX8_behindBlanks_7 : decode cX8_behindBlanks 7 = .ok (.if_icmp .ge 29, 3) := by decide +kernel
theorem dX8_behindBlanks_10 : decode cX8_behindBlanks 10 = .ok (.aload_n 0, 1) := by decide +kernel
theorem dX8_behindBlanks_11 : decode cX8_behindBlanks 11 = .ok (.iload_n 2, 1) := by decide +kernel
theorem dX8_behindBlanks_12 : decode cX8_behindBlanks 12 = .ok (.invokevirtual 77, 3) := by decide +kernel
theorem dX8_behindBlanks_15 : decode cX8_behindBlanks 15 = .ok (.bipush 32, 2) := by decide +kernel
theorem dX8_behindBlanks_17 : decode cX8_behindBlanks 17 = .ok (.if_icmp .eq 13, 3) := by decide +kernel
theorem dX8_behindBlanks_20 : decode cX8_behindBlanks 20 = .ok (.aload_n 0, 1) := by decide +kernel
theorem dX8_behindBlanks_21 : decode cX8_behindBlanks 21 = .ok (.iload_n 2, 1) := by decide +kernel
theorem dX8_behindBlanks_22 : decode cX8_behindBlanks 22 = .ok (.invokevirtual 77, 3) := by decide +kernel
theorem dX8_behindBlanks_25 : decode cX8_behindBlanks 25 = .ok (.bipush 10, 2) := by decide +kernel
theorem dX8_behindBlanks_27 : decode cX8_behindBlanks 27 = .ok (.if_icmp .ne 9, 3) := by decide +kernel
theorem dX8_behindBlanks_30 : decode cX8_behindBlanks 30 = .ok (.iinc 2 1, 3) := by decide +kernel
theorem dX8_behindBlanks_33 : decode cX8_behindBlanks 33 = .ok (.goto (-31), 3) := by decide +kernel
theorem dX8_behindBlanks_36 : decode cX8_behindBlanks 36 = .ok (.iload_n 2, 1) := by decide +kernel
theorem dX8_behindBlanks_37 : decode cX8_behindBlanks 37 = .ok (.ireturn, 1) := by decide +kernel
theorem dX8_byteAt_0 : decode cX8_byteAt 0 = .ok (.iload_n 1, 1) := by decide +kernel
theorem dX8_byteAt_1 : decode cX8_byteAt 1 = .ok (.ifCond .lt 24, 3) := by decide +kernel
theorem dX8_byteAt_4 : decode cX8_byteAt 4 = .ok (.iload_n 1, 1) := by decide +kernel
theorem dX8_byteAt_5 : decode cX8_byteAt 5 = .ok (.aload_n 0, 1) := by decide +kernel
theorem dX8_byteAt_6 : decode cX8_byteAt 6 = .ok (.getfield 63, 3) := by decide +kernel
theorem dX8_byteAt_9 : decode cX8_byteAt 9 = .ok (.if_icmp .ge 16, 3) := by decide +kernel
theorem dX8_byteAt_12 : decode cX8_byteAt 12 = .ok (.aload_n 0, 1) := by decide +kernel
theorem dX8_byteAt_13 : decode cX8_byteAt 13 = .ok (.getfield 25, 3) := by decide +kernel
theorem dX8_byteAt_16 : decode cX8_byteAt 16 = .ok (.iload_n 1, 1) := by decide +kernel
theorem dX8_byteAt_17 : decode cX8_byteAt 17 = .ok (.baload, 1) := by decide +kernel
theorem dX8_byteAt_18 : decode cX8_byteAt 18 = .ok (.sipush 255, 3) := by decide +kernel
theorem dX8_byteAt_21 : decode cX8_byteAt 21 = .ok (.iand, 1) := by decide +kernel
theorem dX8_byteAt_22 : decode cX8_byteAt 22 = .ok (.goto 4, 3) := by decide +kernel
theorem dX8_byteAt_25 : decode cX8_byteAt 25 = .ok (.iconst 0, 1) := by decide +kernel
theorem dX8_byteAt_26 : decode cX8_byteAt 26 = .ok (.ireturn, 1) := by decide +kernel
theorem dX8_pairKind_0 : decode cX8_pairKind 0 = .ok (.iload_n 1, 1) := by decide +kernel
theorem dX8_pairKind_1 : decode cX8_pairKind 1 = .ok (.bipush 61, 2) := by decide +kernel
theorem dX8_pairKind_3 : decode cX8_pairKind 3 = .ok (.if_icmp .ne 63, 3) := by decide +kernel
theorem dX8_pairKind_6 : decode cX8_pairKind 6 = .ok (.iload_n 0, 1) := by decide +kernel
theorem dX8_pairKind_7 : decode cX8_pairKind 7 = .ok (.lookupswitch 57 #[(33, 45), (60, 49), (61, 41), (62, 53)], 41) := by decide +kernel
theorem dX8_pairKind_48 : decode cX8_pairKind 48 = .ok (.sipush 201, 3) := by decide +kernel
theorem dX8_pairKind_51 : decode cX8_pairKind 51 = .ok (.ireturn, 1) := by decide +kernel
theorem dX8_pairKind_52 : decode cX8_pairKind 52 = .ok (.sipush 202, 3) := by decide +kernel
theorem dX8_pairKind_55 : decode cX8_pairKind 55 = .ok (.ireturn, 1) := by decide +kernel
theorem dX8_pairKind_56 : decode cX8_pairKind 56 = .ok (.sipush 203, 3) := by decide +kernel
theorem dX8_pairKind_59 : decode cX8_pairKind 59 = .ok (.ireturn, 1) := by decide +kernel
theorem dX8_pairKind_60 : decode cX8_pairKind 60 = .ok (.sipush 204, 3) := by decide +kernel
theorem dX8_pairKind_63 : decode cX8_pairKind 63 = .ok (.ireturn, 1) := by decide +kernel
theorem dX8_pairKind_64 : decode cX8_pairKind 64 = .ok (.iconst 2, 1) := by decide +kernel
theorem dX8_pairKind_65 : decode cX8_pairKind 65 = .ok (.ireturn, 1) := by decide +kernel
theorem dX8_pairKind_66 : decode cX8_pairKind 66 = .ok (.iload_n 0, 1) := by decide +kernel
theorem dX8_pairKind_67 : decode cX8_pairKind 67 = .ok (.iload_n 1, 1) := by decide +kernel
theorem dX8_pairKind_68 : decode cX8_pairKind 68 = .ok (.if_icmp .eq 5, 3) := by decide +kernel
theorem dX8_pairKind_71 : decode cX8_pairKind 71 = .ok (.iconst 2, 1) := by decide +kernel
theorem dX8_pairKind_72 : decode cX8_pairKind 72 = .ok (.ireturn, 1) := by decide +kernel
theorem dX8_pairKind_73 : decode cX8_pairKind 73 = .ok (.iload_n 0, 1) := by decide +kernel
theorem dX8_pairKind_74 : decode cX8_pairKind 74 = .ok (.lookupswitch 46 #[(38, 38), (46, 34), (124, 42)], 34) := by decide +kernel
theorem dX8_pairKind_108 : decode cX8_pairKind 108 = .ok (.sipush 200, 3) := by decide +kernel
theorem dX8_pairKind_111 : decode cX8_pairKind 111 = .ok (.ireturn, 1) := by decide +kernel
theorem dX8_pairKind_112 : decode cX8_pairKind 112 = .ok (.sipush 205, 3) := by decide +kernel
theorem dX8_pairKind_115 : decode cX8_pairKind 115 = .ok (.ireturn, 1) := by decide +kernel
theorem dX8_pairKind_116 : decode cX8_pairKind 116 = .ok (.sipush 206, 3) := by decide +kernel
theorem dX8_pairKind_119 : decode cX8_pairKind 119 = .ok (.ireturn, 1) := by decide +kernel
theorem dX8_pairKind_120 : decode cX8_pairKind 120 = .ok (.iconst 2, 1) := by decide +kernel
theorem dX8_pairKind_121 : decode cX8_pairKind 121 = .ok (.ireturn, 1) := by decide +kernel
theorem dX8_kind_0 : decode cX8_kind 0 = .ok (.aload_n 0, 1) := by decide +kernel
theorem dX8_kind_1 : decode cX8_kind 1 = .ok (.getfield 11, 3) := by decide +kernel
theorem dX8_kind_4 : decode cX8_kind 4 = .ok (.aload_n 0, 1) := by decide +kernel
theorem dX8_kind_5 : decode cX8_kind 5 = .ok (.getfield 65, 3) := by decide +kernel
theorem dX8_kind_8 : decode cX8_kind 8 = .ok (.iaload, 1) := by decide +kernel
theorem dX8_kind_9 : decode cX8_kind 9 = .ok (.ireturn, 1) := by decide +kernel
theorem dX8_place_0 : decode cX8_place 0 = .ok (.aload_n 0, 1) := by decide +kernel
theorem dX8_place_1 : decode cX8_place 1 = .ok (.getfield 15, 3) := by decide +kernel
theorem dX8_place_4 : decode cX8_place 4 = .ok (.aload_n 0, 1) := by decide +kernel
theorem dX8_place_5 : decode cX8_place 5 = .ok (.getfield 65, 3) := by decide +kernel
theorem dX8_place_8 : decode cX8_place 8 = .ok (.iaload, 1) := by decide +kernel
theorem dX8_place_9 : decode cX8_place 9 = .ok (.ireturn, 1) := by decide +kernel
theorem dX8_value_0 : decode cX8_value 0 = .ok (.aload_n 0, 1) := by decide +kernel
theorem dX8_value_1 : decode cX8_value 1 = .ok (.getfield 18, 3) := by decide +kernel
theorem dX8_value_4 : decode cX8_value 4 = .ok (.aload_n 0, 1) := by decide +kernel
theorem dX8_value_5 : decode cX8_value 5 = .ok (.getfield 65, 3) := by decide +kernel
theorem dX8_value_8 : decode cX8_value 8 = .ok (.laload, 1) := by decide +kernel
theorem dX8_value_9 : decode cX8_value 9 = .ok (.lreturn, 1) := by decide +kernel
theorem dX8_atBracket_0 : decode cX8_atBracket 0 = .ok (.aload_n 0, 1) := by decide +kernel
theorem dX8_atBracket_1 : decode cX8_atBracket 1 = .ok (.getfield 65, 3) := by decide +kernel
theorem dX8_atBracket_4 : decode cX8_atBracket 4 = .ok (.sipush 1200, 3) := by decide +kernel
theorem dX8_atBracket_7 : decode cX8_atBracket 7 = .ok (.if_icmp .le 10, 3) := by decide +kernel
theorem dX8_atBracket_10 : decode cX8_atBracket 10 = .ok (.aload_n 0, 1) := by decide +kernel
theorem dX8_atBracket_11 : decode cX8_atBracket 11 = .ok (.getfield 80, 3) := by decide +kernel
theorem dX8_atBracket_14 : decode cX8_atBracket 14 = .ok (.goto 22, 3) := by decide +kernel
theorem dX8_atBracket_17 : decode cX8_atBracket 17 = .ok (.aload_n 0, 1) := by decide +kernel
theorem dX8_atBracket_18 : decode cX8_atBracket 18 = .ok (.getfield 11, 3) := by decide +kernel
theorem dX8_atBracket_21 : decode cX8_atBracket 21 = .ok (.aload_n 0, 1) := by decide +kernel
theorem dX8_atBracket_22 : decode cX8_atBracket 22 = .ok (.getfield 65, 3) := by decide +kernel
theorem dX8_atBracket_25 : decode cX8_atBracket 25 = .ok (.iaload, 1) := by decide +kernel
theorem dX8_atBracket_26 : decode cX8_atBracket 26 = .ok (.bipush 40, 2) := by decide +kernel
theorem dX8_atBracket_28 : decode cX8_atBracket 28 = .ok (.if_icmp .ne 7, 3) := by decide +kernel
theorem dX8_atBracket_31 : decode cX8_atBracket 31 = .ok (.iconst 1, 1) := by decide +kernel
theorem dX8_atBracket_32 : decode cX8_atBracket 32 = .ok (.goto 4, 3) := by decide +kernel
theorem dX8_atBracket_35 : decode cX8_atBracket 35 = .ok (.iconst 0, 1) := by decide +kernel
theorem dX8_atBracket_36 : decode cX8_atBracket 36 = .ok (.ireturn, 1) := by decide +kernel
theorem dX8_next_0 : decode cX8_next 0 = .ok (.aload_n 0, 1) := by decide +kernel
theorem dX8_next_1 : decode cX8_next 1 = .ok (.getfield 65, 3) := by decide +kernel
theorem dX8_next_4 : decode cX8_next 4 = .ok (.sipush 1200, 3) := by decide +kernel
theorem dX8_next_7 : decode cX8_next 7 = .ok (.if_icmp .gt 13, 3) := by decide +kernel
theorem dX8_next_10 : decode cX8_next 10 = .ok (.aload_n 0, 1) := by decide +kernel
theorem dX8_next_11 : decode cX8_next 11 = .ok (.dup, 1) := by decide +kernel
theorem dX8_next_12 : decode cX8_next 12 = .ok (.getfield 65, 3) := by decide +kernel
theorem dX8_next_15 : decode cX8_next 15 = .ok (.iconst 1, 1) := by decide +kernel
theorem dX8_next_16 : decode cX8_next 16 = .ok (.iadd, 1) := by decide +kernel
theorem dX8_next_17 : decode cX8_next 17 = .ok (.putfield 65, 3) := by decide +kernel
theorem dX8_next_20 : decode cX8_next 20 = .ok (.return_, 1) := by decide +kernel
theorem dX8_fail_0 : decode cX8_fail 0 = .ok (.aload_n 0, 1) := by decide +kernel
theorem dX8_fail_1 : decode cX8_fail 1 = .ok (.getfield 65, 3) := by decide +kernel
theorem dX8_fail_4 : decode cX8_fail 4 = .ok (.sipush 1200, 3) := by decide +kernel
theorem dX8_fail_7 : decode cX8_fail 7 = .ok (.if_icmp .le 24, 3) := by decide +kernel
theorem dX8_fail_10 : decode cX8_fail 10 = .ok (.iload_n 1, 1) := by decide +kernel
theorem dX8_fail_11 : decode cX8_fail 11 = .ok (.iconst 4, 1) := by decide +kernel
theorem dX8_fail_12 : decode cX8_fail 12 = .ok (.if_icmp .gt 15, 3) := by decide +kernel
theorem dX8_fail_15 : decode cX8_fail 15 = .ok (.iload_n 2, 1) := by decide +kernel
theorem dX8_fail_16 : decode cX8_fail 16 = .ok (.aload_n 0, 1) := by decide +kernel
theorem dX8_fail_17 : decode cX8_fail 17 = .ok (.getfield 15, 3) := by decide +kernel
theorem dX8_fail_20 : decode cX8_fail 20 = .ok (.sipush 1200, 3) := by decide +kernel
theorem dX8_fail_23 : decode cX8_fail 23 = .ok (.iaload, 1) := by decide +kernel
theorem dX8_fail_24 : decode cX8_fail 24 = .ok (.if_icmp .eq 7, 3) := by decide +kernel
theorem dX8_fail_27 : decode cX8_fail 27 = .ok (.iconst 1, 1) := by decide +kernel
theorem dX8_fail_28 : decode cX8_fail 28 = .ok (.goto 4, 3) := by decide +kernel
theorem dX8_fail_31 : decode cX8_fail 31 = .ok (.iconst 0, 1) := by decide +kernel
theorem dX8_fail_32 : decode cX8_fail 32 = .ok (.istore_n 3, 1) := by decide +kernel
theorem dX8_fail_33 : decode cX8_fail 33 = .ok (.aload_n 0, 1) := by decide +kernel
theorem dX8_fail_34 : decode cX8_fail 34 = .ok (.getfield 68, 3) := by decide +kernel
theorem dX8_fail_37 : decode cX8_fail 37 = .ok (.ifCond .ne 36, 3) := by decide +kernel
theorem dX8_fail_40 : decode cX8_fail 40 = .ok (.aload_n 0, 1) := by decide +kernel
theorem dX8_fail_41 : decode cX8_fail 41 = .ok (.iload_n 3, 1) := by decide +kernel
theorem dX8_fail_42 : decode cX8_fail 42 = .ok (.ifCond .eq 7, 3) := by decide +kernel
theorem dX8_fail_45 : decode cX8_fail 45 = .ok (.iconst 4, 1) := by decide +kernel
theorem dX8_fail_46 : decode cX8_fail 46 = .ok (.goto 4, 3) := by decide +kernel
theorem dX8_fail_49 : decode cX8_fail 49 = .ok (.iload_n 1, 1) := by decide +kernel
theorem dX8_fail_50 : decode cX8_fail 50 = .ok (.putfield 68, 3) := by decide +kernel
theorem dX8_fail_53 : decode cX8_fail 53 = .ok (.aload_n 0, 1) := by decide +kernel
theorem dX8_fail_54 : decode cX8_fail 54 = .ok (.iload_n 3, 1) := by decide +kernel
theorem dX8_fail_55 : decode cX8_fail 55 = .ok (.ifCond .eq 14, 3) := by decide +kernel
theorem dX8_fail_58 : decode cX8_fail 58 = .ok (.aload_n 0, 1) := by decide +kernel
theorem dX8_fail_59 : decode cX8_fail 59 = .ok (.getfield 15, 3) := by decide +kernel
theorem dX8_fail_62 : decode cX8_fail 62 = .ok (.sipush 1200, 3) := by decide +kernel
theorem dX8_fail_65 : decode cX8_fail 65 = .ok (.iaload, 1) := by decide +kernel
theorem dX8_fail_66 : decode cX8_fail 66 = .ok (.goto 4, 3) := by decide +kernel
theorem dX8_fail_69 : decode cX8_fail 69 = .ok (.iload_n 2, 1) := by decide +kernel
theorem dX8_fail_70 : decode cX8_fail 70 = .ok (.putfield 29, 3) := by decide +kernel
theorem dX8_fail_73 : decode cX8_fail 73 = .ok (.aload_n 0, 1) := by decide +kernel
theorem dX8_fail_74 : decode cX8_fail 74 = .ok (.sipush 1201, 3) := by decide +kernel
theorem dX8_fail_77 : decode cX8_fail 77 = .ok (.putfield 65, 3) := by decide +kernel
theorem dX8_fail_80 : decode cX8_fail 80 = .ok (.return_, 1) := by decide +kernel
theorem dX8_take_0 : decode cX8_take 0 = .ok (.aload_n 0, 1) := by decide +kernel
theorem dX8_take_1 : decode cX8_take 1 = .ok (.getfield 11, 3) := by decide +kernel
theorem dX8_take_4 : decode cX8_take 4 = .ok (.aload_n 0, 1) := by decide +kernel
theorem dX8_take_5 : decode cX8_take 5 = .ok (.getfield 65, 3) := by decide +kernel
theorem dX8_take_8 : decode cX8_take 8 = .ok (.iaload, 1) := by decide +kernel
theorem dX8_take_9 : decode cX8_take 9 = .ok (.iload_n 1, 1) := by decide +kernel
theorem dX8_take_10 : decode cX8_take 10 = .ok (.if_icmp .ne 10, 3) := by decide +kernel
theorem dX8_take_13 : decode cX8_take 13 = .ok (.aload_n 0, 1) := by decide +kernel
theorem dX8_take_14 : decode cX8_take 14 = .ok (.invokevirtual 100, 3) := by decide +kernel
theorem dX8_take_17 : decode cX8_take 17 = .ok (.goto 17, 3) := by decide +kernel
theorem dX8_take_20 : decode cX8_take 20 = .ok (.aload_n 0, 1) := by decide +kernel
theorem dX8_take_21 : decode cX8_take 21 = .ok (.iconst 1, 1) := by decide +kernel
theorem dX8_take_22 : decode cX8_take 22 = .ok (.aload_n 0, 1) := by decide +kernel
theorem dX8_take_23 : decode cX8_take 23 = .ok (.getfield 15, 3) := by decide +kernel
theorem dX8_take_26 : decode cX8_take 26 = .ok (.aload_n 0, 1) := by decide +kernel
theorem dX8_take_27 : decode cX8_take 27 = .ok (.getfield 65, 3) := by decide +kernel
theorem dX8_take_30 : decode cX8_take 30 = .ok (.iaload, 1) := by decide +kernel
theorem dX8_take_31 : decode cX8_take 31 = .ok (.invokevirtual 103, 3) := by decide +kernel
theorem dX8_take_34 : decode cX8_take 34 = .ok (.return_, 1) := by decide +kernel
theorem dX9_beginAs_0 : decode cX9_beginAs 0 = .ok (.aload_n 0, 1) := by decide +kernel
theorem dX9_beginAs_1 : decode cX9_beginAs 1 = .ok (.lload_n 1, 1) := by decide +kernel
theorem dX9_beginAs_2 : decode cX9_beginAs 2 = .ok (.putfield 28, 3) := by decide +kernel
theorem dX9_beginAs_5 : decode cX9_beginAs 5 = .ok (.aload_n 0, 1) := by decide +kernel
theorem dX9_beginAs_6 : decode cX9_beginAs 6 = .ok (.iconst (-1), 1) := by decide +kernel
theorem dX9_beginAs_7 : decode cX9_beginAs 7 = .ok (.putfield 32, 3) := by decide +kernel
theorem dX9_beginAs_10 : decode cX9_beginAs 10 = .ok (.aload_n 0, 1) := by decide +kernel
theorem dX9_beginAs_11 : decode cX9_beginAs 11 = .ok (.iconst 0, 1) := by decide +kernel
theorem dX9_beginAs_12 : decode cX9_beginAs 12 = .ok (.putfield 36, 3) := by decide +kernel
theorem dX9_beginAs_15 : decode cX9_beginAs 15 = .ok (.aload_n 0, 1) := by decide +kernel
theorem dX9_beginAs_16 : decode cX9_beginAs 16 = .ok (.iconst 0, 1) := by decide +kernel
theorem dX9_beginAs_17 : decode cX9_beginAs 17 = .ok (.putfield 39, 3) := by decide +kernel
theorem dX9_beginAs_20 : decode cX9_beginAs 20 = .ok (.aload_n 0, 1) := by decide +kernel
theorem dX9_beginAs_21 : decode cX9_beginAs 21 = .ok (.iconst 0, 1) := by decide +kernel
theorem dX9_beginAs_22 : decode cX9_beginAs 22 = .ok (.putfield 42, 3) := by decide +kernel
theorem dX9_beginAs_25 : decode cX9_beginAs 25 = .ok (.aload_n 0, 1) := by decide +kernel
theorem dX9_beginAs_26 : decode cX9_beginAs 26 = .ok (.iconst 0, 1) := by decide +kernel
theorem dX9_beginAs_27 : decode cX9_beginAs 27 = .ok (.putfield 45, 3) := by decide +kernel
theorem dX9_beginAs_30 : decode cX9_beginAs 30 = .ok (.aload_n 0, 1) := by decide +kernel
theorem dX9_beginAs_31 : decode cX9_beginAs 31 = .ok (.iconst 0, 1) := by decide +kernel
theorem dX9_beginAs_32 : decode cX9_beginAs 32 = .ok (.putfield 48, 3) := by decide +kernel
theorem dX9_beginAs_35 : decode cX9_beginAs 35 = .ok (.aload_n 0, 1) := by decide +kernel
theorem dX9_beginAs_36 : decode cX9_beginAs 36 = .ok (.iconst (-1), 1) := by decide +kernel
theorem dX9_beginAs_37 : decode cX9_beginAs 37 = .ok (.putfield 51, 3) := by decide +kernel
theorem dX9_beginAs_40 : decode cX9_beginAs 40 = .ok (.return_, 1) := by decide +kernel
theorem dX9_standBelow_0 : decode cX9_standBelow 0 = .ok (.aload_n 0, 1) := by decide +kernel
theorem dX9_standBelow_1 : decode cX9_standBelow 1 = .ok (.iload_n 1, 1) := by decide +kernel
theorem dX9_standBelow_2 : decode cX9_standBelow 2 = .ok (.putfield 32, 3) := by decide +kernel
theorem dX9_standBelow_5 : decode cX9_standBelow 5 = .ok (.aload_n 0, 1) := by decide +kernel
theorem dX9_standBelow_6 : decode cX9_standBelow 6 = .ok (.aload_n 2, 1) := by decide +kernel
theorem dX9_standBelow_7 : decode cX9_standBelow 7 = .ok (.getfield 36, 3) := by decide +kernel
theorem dX9_standBelow_10 : decode cX9_standBelow 10 = .ok (.putfield 36, 3) := by decide +kernel
theorem dX9_standBelow_13 : decode cX9_standBelow 13 = .ok (.aload_n 2, 1) := by decide +kernel
theorem dX9_standBelow_14 : decode cX9_standBelow 14 = .ok (.getfield 11, 3) := by decide +kernel
theorem dX9_standBelow_17 : decode cX9_standBelow 17 = .ok (.iconst 0, 1) := by decide +kernel
theorem dX9_standBelow_18 : decode cX9_standBelow 18 = .ok (.aload_n 0, 1) := by decide +kernel
theorem dX9_standBelow_19 : decode cX9_standBelow 19 = .ok (.getfield 11, 3) := by decide +kernel
theorem dX9_standBelow_22 : decode cX9_standBelow 22 = .ok (.iconst 0, 1) := by decide +kernel
theorem dX9_standBelow_23 : decode cX9_standBelow 23 = .ok (.bipush 10, 2) := by decide +kernel
theorem dX9_standBelow_25 : decode cX9_standBelow 25 = .ok (.invokestatic 54, 3) := by decide +kernel
theorem dX9_standBelow_28 : decode cX9_standBelow 28 = .ok (.aload_n 2, 1) := by decide +kernel
theorem dX9_standBelow_29 : decode cX9_standBelow 29 = .ok (.getfield 15, 3) := by decide +kernel
theorem dX9_standBelow_32 : decode cX9_standBelow 32 = .ok (.iconst 0, 1) := by decide +kernel
theorem dX9_standBelow_33 : decode cX9_standBelow 33 = .ok (.aload_n 0, 1) := by decide +kernel
theorem dX9_standBelow_34 : decode cX9_standBelow 34 = .ok (.getfield 15, 3) := by decide +kernel
theorem dX9_standBelow_37 : decode cX9_standBelow 37 = .ok (.iconst 0, 1) := by decide +kernel
theorem dX9_standBelow_38 : decode cX9_standBelow 38 = .ok (.bipush 10, 2) := by decide +kernel
theorem dX9_standBelow_40 : decode cX9_standBelow 40 = .ok (.invokestatic 54, 3) := by decide +kernel
theorem dX9_standBelow_43 : decode cX9_standBelow 43 = .ok (.aload_n 2, 1) := by decide +kernel
theorem dX9_standBelow_44 : decode cX9_standBelow 44 = .ok (.getfield 19, 3) := by decide +kernel
theorem dX9_standBelow_47 : decode cX9_standBelow 47 = .ok (.iconst 0, 1) := by decide +kernel
theorem dX9_standBelow_48 : decode cX9_standBelow 48 = .ok (.aload_n 0, 1) := by decide +kernel
theorem dX9_standBelow_49 : decode cX9_standBelow 49 = .ok (.getfield 19, 3) := by decide +kernel
theorem dX9_standBelow_52 : decode cX9_standBelow 52 = .ok (.iconst 0, 1) := by decide +kernel
theorem dX9_standBelow_53 : decode cX9_standBelow 53 = .ok (.bipush 10, 2) := by decide +kernel
theorem dX9_standBelow_55 : decode cX9_standBelow 55 = .ok (.invokestatic 54, 3) := by decide +kernel
theorem dX9_standBelow_58 : decode cX9_standBelow 58 = .ok (.aload_n 2, 1) := by decide +kernel
theorem dX9_standBelow_59 : decode cX9_standBelow 59 = .ok (.getfield 22, 3) := by decide +kernel
theorem dX9_standBelow_62 : decode cX9_standBelow 62 = .ok (.iconst 0, 1) := by decide +kernel
theorem dX9_standBelow_63 : decode cX9_standBelow 63 = .ok (.aload_n 0, 1) := by decide +kernel
theorem dX9_standBelow_64 : decode cX9_standBelow 64 = .ok (.getfield 22, 3) := by decide +kernel
theorem dX9_standBelow_67 : decode cX9_standBelow 67 = .ok (.iconst 0, 1) := by decide +kernel
theorem dX9_standBelow_68 : decode cX9_standBelow 68 = .ok (.bipush 10, 2) := by decide +kernel
theorem dX9_standBelow_70 : decode cX9_standBelow 70 = .ok (.invokestatic 54, 3) := by decide +kernel
theorem dX9_standBelow_73 : decode cX9_standBelow 73 = .ok (.aload_n 0, 1) := by decide +kernel
theorem dX9_standBelow_74 : decode cX9_standBelow 74 = .ok (.aload_n 2, 1) := by decide +kernel
theorem dX9_standBelow_75 : decode cX9_standBelow 75 = .ok (.getfield 39, 3) := by decide +kernel
theorem dX9_standBelow_78 : decode cX9_standBelow 78 = .ok (.putfield 39, 3) := by decide +kernel
theorem dX9_standBelow_81 : decode cX9_standBelow 81 = .ok (.aload_n 0, 1) := by decide +kernel
theorem dX9_standBelow_82 : decode cX9_standBelow 82 = .ok (.aload_n 2, 1) := by decide +kernel
theorem dX9_standBelow_83 : decode cX9_standBelow 83 = .ok (.getfield 42, 3) := by decide +kernel
theorem dX9_standBelow_86 : decode cX9_standBelow 86 = .ok (.putfield 42, 3) := by decide +kernel
theorem dX9_standBelow_89 : decode cX9_standBelow 89 = .ok (.aload_n 2, 1) := by decide +kernel
theorem dX9_standBelow_90 : decode cX9_standBelow 90 = .ok (.getfield 25, 3) := by decide +kernel
theorem dX9_standBelow_93 : decode cX9_standBelow 93 = .ok (.iconst 0, 1) := by decide +kernel
theorem dX9_standBelow_94 : decode cX9_standBelow 94 = .ok (.aload_n 0, 1) := by decide +kernel
theorem dX9_standBelow_95 : decode cX9_standBelow 95 = .ok (.getfield 25, 3) := by decide +kernel
theorem dX9_standBelow_98 : decode cX9_standBelow 98 = .ok (.iconst 0, 1) := by decide +kernel
theorem dX9_standBelow_99 : decode cX9_standBelow 99 = .ok (.bipush 12, 2) := by decide +kernel
theorem dX9_standBelow_101 : decode cX9_standBelow 101 = .ok (.invokestatic 54, 3) := by decide +kernel
theorem dX9_standBelow_104 : decode cX9_standBelow 104 = .ok (.return_, 1) := by decide +kernel
theorem dX9_fieldNamed_0 : decode cX9_fieldNamed 0 = .ok (.iconst 0, 1) := by decide +kernel
theorem dX9_fieldNamed_1 : decode cX9_fieldNamed 1 = .ok (.istore_n 3, 1) := by decide +kernel
theorem dX9_fieldNamed_2 : decode cX9_fieldNamed 2 = .ok (.iload_n 3, 1) := by decide +kernel
theorem dX9_fieldNamed_3 : decode cX9_fieldNamed 3 = .ok (.aload_n 0, 1) := by decide +kernel
theorem dX9_fieldNamed_4 : decode cX9_fieldNamed 4 = .ok (.getfield 36, 3) := by decide +kernel
theorem dX9_fieldNamed_7 : decode cX9_fieldNamed 7 = .ok (.if_icmp .ge 22, 3) := by decide +kernel
theorem dX9_fieldNamed_10 : decode cX9_fieldNamed 10 = .ok (.aload_n 0, 1) := by decide +kernel
theorem dX9_fieldNamed_11 : decode cX9_fieldNamed 11 = .ok (.getfield 11, 3) := by decide +kernel
theorem dX9_fieldNamed_14 : decode cX9_fieldNamed 14 = .ok (.iload_n 3, 1) := by decide +kernel
theorem dX9_fieldNamed_15 : decode cX9_fieldNamed 15 = .ok (.laload, 1) := by decide +kernel
theorem dX9_fieldNamed_16 : decode cX9_fieldNamed 16 = .ok (.lload_n 1, 1) := by decide +kernel
theorem dX9_fieldNamed_17 : decode cX9_fieldNamed 17 = .ok (.lcmp, 1) := by decide +kernel
theorem dX9_fieldNamed_18 : decode cX9_fieldNamed 18 = .ok (.ifCond .ne 5, 3) := by decide +kernel
theorem dX9_fieldNamed_21 : decode cX9_fieldNamed 21 = .ok (.iload_n 3, 1) := by decide +kernel
theorem dX9_fieldNamed_22 : decode cX9_fieldNamed 22 = .ok (.ireturn, 1) := by decide +kernel
theorem dX9_fieldNamed_23 : decode cX9_fieldNamed 23 = .ok (.iinc 3 1, 3) := by decide +kernel
theorem dX9_fieldNamed_26 : decode cX9_fieldNamed 26 = .ok (.goto (-24), 3) := by decide +kernel
theorem dX9_fieldNamed_29 : decode cX9_fieldNamed 29 = .ok (.iconst (-1), 1) := by decide +kernel
theorem dX9_fieldNamed_30 : decode cX9_fieldNamed 30 = .ok (.ireturn, 1) := by decide +kernel
theorem dX9_isRow_0 : decode cX9_isRow 0 = .ok (.iload_n 1, 1) := by decide +kernel
theorem dX9_isRow_1 : decode cX9_isRow 1 = .ok (.ifCond .lt 24, 3) := by decide +kernel
theorem dX9_isRow_4 : decode cX9_isRow 4 = .ok (.iload_n 1, 1) := by decide +kernel
theorem dX9_isRow_5 : decode cX9_isRow 5 = .ok (.aload_n 0, 1) := by decide +kernel
theorem dX9_isRow_6 : decode cX9_isRow 6 = .ok (.getfield 36, 3) := by decide +kernel
theorem dX9_isRow_9 : decode cX9_isRow 9 = .ok (.if_icmp .ge 16, 3) := by decide +kernel
theorem dX9_isRow_12 : decode cX9_isRow 12 = .ok (.aload_n 0, 1) := by decide +kernel
theorem dX9_isRow_13 : decode cX9_isRow 13 = .ok (.getfield 19, 3) := by decide +kernel
theorem dX9_isRow_16 : decode cX9_isRow 16 = .ok (.iload_n 1, 1) := by decide +kernel
theorem dX9_isRow_17 : decode cX9_isRow 17 = .ok (.iaload, 1) := by decide +kernel
theorem dX9_isRow_18 : decode cX9_isRow 18 = .ok (.ifCond .le 7, 3) := by decide +kernel
theorem dX9_isRow_21 : decode cX9_isRow 21 = .ok (.iconst 1, 1) := by decide +kernel
theorem dX9_isRow_22 : decode cX9_isRow 22 = .ok (.goto 4, 3) := by decide +kernel
theorem dX9_isRow_25 : decode cX9_isRow 25 = .ok (.iconst 0, 1) := by decide +kernel
theorem dX9_isRow_26 : decode cX9_isRow 26 = .ok (.ireturn, 1) := by decide +kernel
theorem dX9_spanOf_0 : decode cX9_spanOf 0 = .ok (.iload_n 1, 1) := by decide +kernel
theorem dX9_spanOf_1 : decode cX9_spanOf 1 = .ok (.ifCond .lt 30, 3) := by decide +kernel
theorem dX9_spanOf_4 : decode cX9_spanOf 4 = .ok (.iload_n 1, 1) := by decide +kernel
theorem dX9_spanOf_5 : decode cX9_spanOf 5 = .ok (.aload_n 0, 1) := by decide +kernel
theorem dX9_spanOf_6 : decode cX9_spanOf 6 = .ok (.getfield 36, 3) := by decide +kernel
theorem dX9_spanOf_9 : decode cX9_spanOf 9 = .ok (.if_icmp .ge 22, 3) := by decide +kernel
theorem dX9_spanOf_12 : decode cX9_spanOf 12 = .ok (.aload_n 0, 1) := by decide +kernel
theorem dX9_spanOf_13 : decode cX9_spanOf 13 = .ok (.getfield 15, 3) := by decide +kernel
theorem dX9_spanOf_16 : decode cX9_spanOf 16 = .ok (.iload_n 1, 1) := by decide +kernel
theorem dX9_spanOf_17 : decode cX9_spanOf 17 = .ok (.iaload, 1) := by decide +kernel
theorem dX9_spanOf_18 : decode cX9_spanOf 18 = .ok (.bipush 16, 2) := by decide +kernel
theorem dX9_spanOf_20 : decode cX9_spanOf 20 = .ok (.imul, 1) := by decide +kernel
theorem dX9_spanOf_21 : decode cX9_spanOf 21 = .ok (.aload_n 0, 1) := by decide +kernel
theorem dX9_spanOf_22 : decode cX9_spanOf 22 = .ok (.getfield 19, 3) := by decide +kernel
theorem dX9_spanOf_25 : decode cX9_spanOf 25 = .ok (.iload_n 1, 1) := by decide +kernel
theorem dX9_spanOf_26 : decode cX9_spanOf 26 = .ok (.iaload, 1) := by decide +kernel
theorem dX9_spanOf_27 : decode cX9_spanOf 27 = .ok (.iadd, 1) := by decide +kernel
theorem dX9_spanOf_28 : decode cX9_spanOf 28 = .ok (.goto 4, 3) := by decide +kernel
theorem dX9_spanOf_31 : decode cX9_spanOf 31 = .ok (.iconst 0, 1) := by decide +kernel
theorem dX9_spanOf_32 : decode cX9_spanOf 32 = .ok (.ireturn, 1) := by decide +kernel
theorem dX9_fillNew_0 : decode cX9_fillNew 0 = .ok (.iconst 0, 1) := by decide +kernel
theorem dX9_fillNew_1 : decode cX9_fillNew 1 = .ok (.istore_n 2, 1) := by decide +kernel
theorem dX9_fillNew_2 : decode cX9_fillNew 2 = .ok (.iload_n 2, 1) := by decide +kernel
theorem dX9_fillNew_3 : decode cX9_fillNew 3 = .ok (.aload_n 0, 1) := by decide +kernel
theorem dX9_fillNew_4 : decode cX9_fillNew 4 = .ok (.getfield 36, 3) := by decide +kernel
theorem dX9_fillNew_7 : decode cX9_fillNew 7 = .ok (.if_icmp .ge 64, 3) := by decide +kernel
theorem dX9_fillNew_10 : decode cX9_fillNew 10 = .ok (.aload_n 0, 1) := by decide +kernel
theorem dX9_fillNew_11 : decode cX9_fillNew 11 = .ok (.getfield 15, 3) := by decide +kernel
theorem dX9_fillNew_14 : decode cX9_fillNew 14 = .ok (.iload_n 2, 1) := by decide +kernel
theorem dX9_fillNew_15 : decode cX9_fillNew 15 = .ok (.iaload, 1) := by decide +kernel
theorem dX9_fillNew_16 : decode cX9_fillNew 16 = .ok (.aload_n 0, 1) := by decide +kernel
theorem dX9_fillNew_17 : decode cX9_fillNew 17 = .ok (.getfield 19, 3) := by decide +kernel
theorem dX9_fillNew_20 : decode cX9_fillNew 20 = .ok (.iload_n 2, 1) := by decide +kernel
theorem dX9_fillNew_21 : decode cX9_fillNew 21 = .ok (.iaload, 1) := by decide +kernel
theorem dX9_fillNew_22 : decode cX9_fillNew 22 = .ok (.iconst 1, 1) := by decide +kernel
theorem dX9_fillNew_23 : decode cX9_fillNew 23 = .ok (.invokestatic 60, 3) := by decide +kernel
theorem dX9_fillNew_26 : decode cX9_fillNew 26 = .ok (.iadd, 1) := by decide +kernel
theorem dX9_fillNew_27 : decode cX9_fillNew 27 = .ok (.istore_n 3, 1) := by decide +kernel
theorem dX9_fillNew_28 : decode cX9_fillNew 28 = .ok (.aload_n 0, 1) := by decide +kernel
theorem dX9_fillNew_29 : decode cX9_fillNew 29 = .ok (.getfield 15, 3) := by decide +kernel
theorem dX9_fillNew_32 : decode cX9_fillNew 32 = .ok (.iload_n 2, 1) := by decide +kernel
theorem dX9_fillNew_33 : decode cX9_fillNew 33 = .ok (.iaload, 1) := by decide +kernel
theorem dX9_fillNew_34 : decode cX9_fillNew 34 = .ok (.istore 4, 2) := by decide +kernel
theorem dX9_fillNew_36 : decode cX9_fillNew 36 = .ok (.iload 4, 2) := by decide +kernel
theorem dX9_fillNew_38 : decode cX9_fillNew 38 = .ok (.iload_n 3, 1) := by decide +kernel
theorem dX9_fillNew_39 : decode cX9_fillNew 39 = .ok (.if_icmp .ge 26, 3) := by decide +kernel
theorem dX9_fillNew_42 : decode cX9_fillNew 42 = .ok (.iload 4, 2) := by decide +kernel
theorem dX9_fillNew_44 : decode cX9_fillNew 44 = .ok (.aload_n 1, 1) := by decide +kernel
theorem dX9_fillNew_45 : decode cX9_fillNew 45 = .ok (.arraylength, 1) := by decide +kernel
theorem dX9_fillNew_46 : decode cX9_fillNew 46 = .ok (.if_icmp .ge 19, 3) := by decide +kernel
theorem dX9_fillNew_49 : decode cX9_fillNew 49 = .ok (.aload_n 1, 1) := by decide +kernel
theorem dX9_fillNew_50 : decode cX9_fillNew 50 = .ok (.iload 4, 2) := by decide +kernel
theorem dX9_fillNew_52 : decode cX9_fillNew 52 = .ok (.aload_n 0, 1) := by decide +kernel
theorem dX9_fillNew_53 : decode cX9_fillNew 53 = .ok (.getfield 22, 3) := by decide +kernel
theorem dX9_fillNew_56 : decode cX9_fillNew 56 = .ok (.iload_n 2, 1) := by decide +kernel
theorem dX9_fillNew_57 : decode cX9_fillNew 57 = .ok (.iaload, 1) := by decide +kernel
theorem dX9_fillNew_58 : decode cX9_fillNew 58 = .ok (.iastore, 1) := by decide +kernel
theorem dX9_fillNew_59 : decode cX9_fillNew 59 = .ok (.iinc 4 1, 3) := by decide +kernel
theorem dX9_fillNew_62 : decode cX9_fillNew 62 = .ok (.goto (-26), 3) := by decide +kernel
theorem dX9_fillNew_65 : decode cX9_fillNew 65 = .ok (.iinc 2 1, 3) := by decide +kernel
theorem dX9_fillNew_68 : decode cX9_fillNew 68 = .ok (.goto (-66), 3) := by decide +kernel
theorem dX9_fillNew_71 : decode cX9_fillNew 71 = .ok (.return_, 1) := by decide +kernel
theorem dX9_changedCell_0 : decode cX9_changedCell 0 = .ok (.iconst 0, 1) := by decide +kernel
theorem dX9_changedCell_1 : decode cX9_changedCell 1 = .ok (.istore 4, 2) := by decide +kernel
theorem dX9_changedCell_3 : decode cX9_changedCell 3 = .ok (.iload 4, 2) := by decide +kernel
theorem dX9_changedCell_5 : decode cX9_changedCell 5 = .ok (.aload_n 0, 1) := by decide +kernel
theorem dX9_changedCell_6 : decode cX9_changedCell 6 = .ok (.getfield 36, 3) := by decide +kernel
theorem dX9_changedCell_9 : decode cX9_changedCell 9 = .ok (.if_icmp .ge 89, 3) := by decide +kernel
theorem dX9_changedCell_12 : decode cX9_changedCell 12 = .ok (.aload_n 0, 1) := by decide +kernel
theorem dX9_changedCell_13 : decode cX9_changedCell 13 = .ok (.getfield 15, 3) := by decide +kernel
theorem dX9_changedCell_16 : decode cX9_changedCell 16 = .ok (.iload 4, 2) := by decide +kernel
theorem dX9_changedCell_18 : decode cX9_changedCell 18 = .ok (.iaload, 1) := by decide +kernel
theorem dX9_changedCell_19 : decode cX9_changedCell 19 = .ok (.aload_n 0, 1) := by decide +kernel
theorem dX9_changedCell_20 : decode cX9_changedCell 20 = .ok (.getfield 19, 3) := by decide +kernel
theorem dX9_changedCell_23 : decode cX9_changedCell 23 = .ok (.iload 4, 2) := by decide +kernel
theorem dX9_changedCell_25 : decode cX9_changedCell 25 = .ok (.iaload, 1) := by decide +kernel
theorem dX9_changedCell_26 : decode cX9_changedCell 26 = .ok (.iconst 1, 1) := by decide +kernel
theorem dX9_changedCell_27 : decode cX9_changedCell 27 = .ok (.invokestatic 60, 3) := by decide +kernel
theorem dX9_changedCell_30 : decode cX9_changedCell 30 = .ok (.iadd, 1) := by decide +kernel
theorem dX9_changedCell_31 : decode cX9_changedCell 31 = .ok (.istore 5, 2) := by decide +kernel
theorem dX9_changedCell_33 : decode cX9_changedCell 33 = .ok (.aload_n 0, 1) := by decide +kernel
theorem dX9_changedCell_34 : decode cX9_changedCell 34 = .ok (.getfield 15, 3) := by decide +kernel
theorem dX9_changedCell_37 : decode cX9_changedCell 37 = .ok (.iload 4, 2) := by decide +kernel
theorem dX9_changedCell_39 : decode cX9_changedCell 39 = .ok (.iaload, 1) := by decide +kernel
theorem dX9_changedCell_40 : decode cX9_changedCell 40 = .ok (.istore 6, 2) := by decide +kernel
theorem dX9_changedCell_42 : decode cX9_changedCell 42 = .ok (.iload 6, 2) := by decide +kernel
theorem dX9_changedCell_44 : decode cX9_changedCell 44 = .ok (.iload 5, 2) := by decide +kernel
theorem dX9_changedCell_46 : decode cX9_changedCell 46 = .ok (.if_icmp .ge 46, 3) := by decide +kernel
theorem dX9_changedCell_49 : decode cX9_changedCell 49 = .ok (.iload_n 3, 1) := by decide +kernel
theorem dX9_changedCell_50 : decode cX9_changedCell 50 = .ok (.iload 4, 2) := by decide +kernel
theorem dX9_changedCell_52 : decode cX9_changedCell 52 = .ok (.ishr, 1) := by decide +kernel
theorem dX9_changedCell_53 : decode cX9_changedCell 53 = .ok (.iconst 1, 1) := by decide +kernel
theorem dX9_changedCell_54 : decode cX9_changedCell 54 = .ok (.iand, 1) := by decide +kernel
theorem dX9_changedCell_55 : decode cX9_changedCell 55 = .ok (.ifCond .ne 37, 3) := by decide +kernel
theorem dX9_changedCell_58 : decode cX9_changedCell 58 = .ok (.iload 6, 2) := by decide +kernel
theorem dX9_changedCell_60 : decode cX9_changedCell 60 = .ok (.aload_n 1, 1) := by decide +kernel
theorem dX9_changedCell_61 : decode cX9_changedCell 61 = .ok (.arraylength, 1) := by decide +kernel
theorem dX9_changedCell_62 : decode cX9_changedCell 62 = .ok (.if_icmp .ge 24, 3) := by decide +kernel
theorem dX9_changedCell_65 : decode cX9_changedCell 65 = .ok (.iload 6, 2) := by decide +kernel
theorem dX9_changedCell_67 : decode cX9_changedCell 67 = .ok (.aload_n 2, 1) := by decide +kernel
theorem dX9_changedCell_68 : decode cX9_changedCell 68 = .ok (.arraylength, 1) := by decide +kernel
theorem dX9_changedCell_69 : decode cX9_changedCell 69 = .ok (.if_icmp .ge 17, 3) := by decide +kernel
theorem dX9_changedCell_72 : decode cX9_changedCell 72 = .ok (.aload_n 1, 1) := by decide +kernel
theorem dX9_changedCell_73 : decode cX9_changedCell 73 = .ok (.iload 6, 2) := by decide +kernel
theorem dX9_changedCell_75 : decode cX9_changedCell 75 = .ok (.iaload, 1) := by decide +kernel
theorem dX9_changedCell_76 : decode cX9_changedCell 76 = .ok (.aload_n 2, 1) := by decide +kernel
theorem dX9_changedCell_77 : decode cX9_changedCell 77 = .ok (.iload 6, 2) := by decide +kernel
theorem dX9_changedCell_79 : decode cX9_changedCell 79 = .ok (.iaload, 1) := by decide +kernel
theorem dX9_changedCell_80 : decode cX9_changedCell 80 = .ok (.if_icmp .eq 6, 3) := by decide +kernel
theorem dX9_changedCell_83 : decode cX9_changedCell 83 = .ok (.iload 6, 2) := by decide +kernel
theorem dX9_changedCell_85 : decode cX9_changedCell 85 = .ok (.ireturn, 1) := by decide +kernel
theorem dX9_changedCell_86 : decode cX9_changedCell 86 = .ok (.iinc 6 1, 3) := by decide +kernel
theorem dX9_changedCell_89 : decode cX9_changedCell 89 = .ok (.goto (-47), 3) := by decide +kernel
theorem dX9_changedCell_92 : decode cX9_changedCell 92 = .ok (.iinc 4 1, 3) := by decide +kernel
theorem dX9_changedCell_95 : decode cX9_changedCell 95 = .ok (.goto (-92), 3) := by decide +kernel
theorem dX9_changedCell_98 : decode cX9_changedCell 98 = .ok (.iconst (-1), 1) := by decide +kernel
theorem dX9_changedCell_99 : decode cX9_changedCell 99 = .ok (.ireturn, 1) := by decide +kernel
theorem dX10_useText_0 : decode cX10_useText 0 = .ok (.aload_n 0, 1) := by decide +kernel
theorem dX10_useText_1 : decode cX10_useText 1 = .ok (.aload_n 1, 1) := by decide +kernel
theorem dX10_useText_2 : decode cX10_useText 2 = .ok (.putfield 9, 3) := by decide +kernel
theorem dX10_useText_5 : decode cX10_useText 5 = .ok (.aload_n 0, 1) := by decide +kernel
theorem dX10_useText_6 : decode cX10_useText 6 = .ok (.getfield 25, 3) := by decide +kernel
theorem dX10_useText_9 : decode cX10_useText 9 = .ok (.invokevirtual 42, 3) := by decide +kernel
theorem dX10_useText_12 : decode cX10_useText 12 = .ok (.aload_n 0, 1) := by decide +kernel
theorem dX10_useText_13 : decode cX10_useText 13 = .ok (.getfield 35, 3) := by decide +kernel
theorem dX10_useText_16 : decode cX10_useText 16 = .ok (.invokevirtual 45, 3) := by decide +kernel
theorem dX10_useText_19 : decode cX10_useText 19 = .ok (.aload_n 0, 1) := by decide +kernel
theorem dX10_useText_20 : decode cX10_useText 20 = .ok (.iconst 0, 1) := by decide +kernel
theorem dX10_useText_21 : decode cX10_useText 21 = .ok (.putfield 46, 3) := by decide +kernel
theorem dX10_useText_24 : decode cX10_useText 24 = .ok (.aload_n 0, 1) := by decide +kernel
theorem dX10_useText_25 : decode cX10_useText 25 = .ok (.iconst 0, 1) := by decide +kernel
theorem dX10_useText_26 : decode cX10_useText 26 = .ok (.putfield 50, 3) := by decide +kernel
theorem dX10_useText_29 : decode cX10_useText 29 = .ok (.aload_n 0, 1) := by decide +kernel
theorem dX10_useText_30 : decode cX10_useText 30 = .ok (.iconst 0, 1) := by decide +kernel
theorem dX10_useText_31 : decode cX10_useText 31 = .ok (.putfield 53, 3) := by decide +kernel
theorem dX10_useText_34 : decode cX10_useText 34 = .ok (.return_, 1) := by decide +kernel
theorem dX10_emptyRow_0 : decode cX10_emptyRow 0 = .ok (.aload_n 0, 1) := by decide +kernel
theorem dX10_emptyRow_1 : decode cX10_emptyRow 1 = .ok (.getfield 25, 3) := by decide +kernel
theorem dX10_emptyRow_4 : decode cX10_emptyRow 4 = .ok (.invokevirtual 42, 3) := by decide +kernel
theorem dX10_emptyRow_7 : decode cX10_emptyRow 7 = .ok (.aload_n 0, 1) := by decide +kernel
theorem dX10_emptyRow_8 : decode cX10_emptyRow 8 = .ok (.iconst 0, 1) := by decide +kernel
theorem dX10_emptyRow_9 : decode cX10_emptyRow 9 = .ok (.putfield 53, 3) := by decide +kernel
theorem dX10_emptyRow_12 : decode cX10_emptyRow 12 = .ok (.return_, 1) := by decide +kernel
theorem dX10_appendMake_0 : decode cX10_appendMake 0 = .ok (.aload_n 0, 1) := by decide +kernel
theorem dX10_appendMake_1 : decode cX10_appendMake 1 = .ok (.getfield 35, 3) := by decide +kernel
theorem dX10_appendMake_4 : decode cX10_appendMake 4 = .ok (.aload_n 0, 1) := by decide +kernel
theorem dX10_appendMake_5 : decode cX10_appendMake 5 = .ok (.getfield 25, 3) := by decide +kernel
theorem dX10_appendMake_8 : decode cX10_appendMake 8 = .ok (.getfield 57, 3) := by decide +kernel
theorem dX10_appendMake_11 : decode cX10_appendMake 11 = .ok (.invokevirtual 60, 3) := by decide +kernel
theorem dX10_appendMake_14 : decode cX10_appendMake 14 = .ok (.aload_n 0, 1) := by decide +kernel
theorem dX10_appendMake_15 : decode cX10_appendMake 15 = .ok (.getfield 25, 3) := by decide +kernel
theorem dX10_appendMake_18 : decode cX10_appendMake 18 = .ok (.iload_n 1, 1) := by decide +kernel
theorem dX10_appendMake_19 : decode cX10_appendMake 19 = .ok (.invokevirtual 64, 3) := by decide +kernel
theorem dX10_appendMake_22 : decode cX10_appendMake 22 = .ok (.aload_n 0, 1) := by decide +kernel
theorem dX10_appendMake_23 : decode cX10_appendMake 23 = .ok (.iconst 0, 1) := by decide +kernel
theorem dX10_appendMake_24 : decode cX10_appendMake 24 = .ok (.putfield 53, 3) := by decide +kernel
theorem dX10_appendMake_27 : decode cX10_appendMake 27 = .ok (.aload_n 0, 1) := by decide +kernel
theorem dX10_appendMake_28 : decode cX10_appendMake 28 = .ok (.getfield 25, 3) := by decide +kernel
theorem dX10_appendMake_31 : decode cX10_appendMake 31 = .ok (.getfield 67, 3) := by decide +kernel
theorem dX10_appendMake_34 : decode cX10_appendMake 34 = .ok (.iconst 1, 1) := by decide +kernel
theorem dX10_appendMake_35 : decode cX10_appendMake 35 = .ok (.isub, 1) := by decide +kernel
theorem dX10_appendMake_36 : decode cX10_appendMake 36 = .ok (.ireturn, 1) := by decide +kernel
theorem dX10_appendCall_0 : decode cX10_appendCall 0 = .ok (.aload_n 0, 1) := by decide +kernel
theorem dX10_appendCall_1 : decode cX10_appendCall 1 = .ok (.getfield 35, 3) := by decide +kernel
theorem dX10_appendCall_4 : decode cX10_appendCall 4 = .ok (.aload_n 0, 1) := by decide +kernel
theorem dX10_appendCall_5 : decode cX10_appendCall 5 = .ok (.getfield 25, 3) := by decide +kernel
theorem dX10_appendCall_8 : decode cX10_appendCall 8 = .ok (.getfield 57, 3) := by decide +kernel
theorem dX10_appendCall_11 : decode cX10_appendCall 11 = .ok (.invokevirtual 60, 3) := by decide +kernel
theorem dX10_appendCall_14 : decode cX10_appendCall 14 = .ok (.aload_n 0, 1) := by decide +kernel
theorem dX10_appendCall_15 : decode cX10_appendCall 15 = .ok (.getfield 25, 3) := by decide +kernel
theorem dX10_appendCall_18 : decode cX10_appendCall 18 = .ok (.iload_n 1, 1) := by decide +kernel
theorem dX10_appendCall_19 : decode cX10_appendCall 19 = .ok (.iload_n 2, 1) := by decide +kernel
theorem dX10_appendCall_20 : decode cX10_appendCall 20 = .ok (.iload_n 3, 1) := by decide +kernel
theorem dX10_appendCall_21 : decode cX10_appendCall 21 = .ok (.iload 4, 2) := by decide +kernel
theorem dX10_appendCall_23 : decode cX10_appendCall 23 = .ok (.iload 5, 2) := by decide +kernel
theorem dX10_appendCall_25 : decode cX10_appendCall 25 = .ok (.invokevirtual 70, 3) := by decide +kernel
theorem dX10_appendCall_28 : decode cX10_appendCall 28 = .ok (.aload_n 0, 1) := by decide +kernel
theorem dX10_appendCall_29 : decode cX10_appendCall 29 = .ok (.iconst 0, 1) := by decide +kernel
theorem dX10_appendCall_30 : decode cX10_appendCall 30 = .ok (.putfield 53, 3) := by decide +kernel
theorem dX10_appendCall_33 : decode cX10_appendCall 33 = .ok (.aload_n 0, 1) := by decide +kernel
theorem dX10_appendCall_34 : decode cX10_appendCall 34 = .ok (.getfield 25, 3) := by decide +kernel
theorem dX10_appendCall_37 : decode cX10_appendCall 37 = .ok (.getfield 57, 3) := by decide +kernel
theorem dX10_appendCall_40 : decode cX10_appendCall 40 = .ok (.ireturn, 1) := by decide +kernel
theorem dX10_runOwnRow_0 : decode cX10_runOwnRow 0 = .ok (.aload_n 0, 1) := by decide +kernel
theorem dX10_runOwnRow_1 : decode cX10_runOwnRow 1 = .ok (.aload_n 0, 1) := by decide +kernel
theorem dX10_runOwnRow_2 : decode cX10_runOwnRow 2 = .ok (.getfield 25, 3) := by decide +kernel
theorem dX10_runOwnRow_5 : decode cX10_runOwnRow 5 = .ok (.aload_n 0, 1) := by decide +kernel
theorem dX10_runOwnRow_6 : decode cX10_runOwnRow 6 = .ok (.getfield 35, 3) := by decide +kernel
theorem dX10_runOwnRow_9 : decode cX10_runOwnRow 9 = .ok (.invokevirtual 74, 3) := by decide +kernel
theorem dX10_runOwnRow_12 : decode cX10_runOwnRow 12 = .ok (.aload_n 0, 1) := by decide +kernel
theorem dX10_runOwnRow_13 : decode cX10_runOwnRow 13 = .ok (.iconst 1, 1) := by decide +kernel
theorem dX10_runOwnRow_14 : decode cX10_runOwnRow 14 = .ok (.putfield 53, 3) := by decide +kernel
theorem dX10_runOwnRow_17 : decode cX10_runOwnRow 17 = .ok (.return_, 1) := by decide +kernel
theorem dX10_tellOfSpare_0 : decode cX10_tellOfSpare 0 = .ok (.aload_n 0, 1) := by decide +kernel
theorem dX10_tellOfSpare_1 : decode cX10_tellOfSpare 1 = .ok (.getfield 25, 3) := by decide +kernel
theorem dX10_tellOfSpare_4 : decode cX10_tellOfSpare 4 = .ok (.astore_n 1, 1) := by decide +kernel
theorem dX10_tellOfSpare_5 : decode cX10_tellOfSpare 5 = .ok (.aload_n 0, 1) := by decide +kernel
theorem dX10_tellOfSpare_6 : decode cX10_tellOfSpare 6 = .ok (.aload_n 0, 1) := by decide +kernel
theorem dX10_tellOfSpare_7 : decode cX10_tellOfSpare 7 = .ok (.getfield 29, 3) := by decide +kernel
theorem dX10_tellOfSpare_10 : decode cX10_tellOfSpare 10 = .ok (.putfield 25, 3) := by decide +kernel
theorem dX10_tellOfSpare_13 : decode cX10_tellOfSpare 13 = .ok (.aload_n 0, 1) := by decide +kernel
theorem dX10_tellOfSpare_14 : decode cX10_tellOfSpare 14 = .ok (.aload_n 1, 1) := by decide +kernel
theorem dX10_tellOfSpare_15 : decode cX10_tellOfSpare 15 = .ok (.putfield 29, 3) := by decide +kernel
theorem dX10_tellOfSpare_18 : decode cX10_tellOfSpare 18 = .ok (.aload_n 0, 1) := by decide +kernel
theorem dX10_tellOfSpare_19 : decode cX10_tellOfSpare 19 = .ok (.getfield 35, 3) := by decide +kernel
theorem dX10_tellOfSpare_22 : decode cX10_tellOfSpare 22 = .ok (.astore_n 2, 1) := by decide +kernel
theorem dX10_tellOfSpare_23 : decode cX10_tellOfSpare 23 = .ok (.aload_n 0, 1) := by decide +kernel
theorem dX10_tellOfSpare_24 : decode cX10_tellOfSpare 24 = .ok (.aload_n 0, 1) := by decide +kernel
theorem dX10_tellOfSpare_25 : decode cX10_tellOfSpare 25 = .ok (.getfield 39, 3) := by decide +kernel
theorem dX10_tellOfSpare_28 : decode cX10_tellOfSpare 28 = .ok (.putfield 35, 3) := by decide +kernel
theorem dX10_tellOfSpare_31 : decode cX10_tellOfSpare 31 = .ok (.aload_n 0, 1) := by decide +kernel
theorem dX10_tellOfSpare_32 : decode cX10_tellOfSpare 32 = .ok (.aload_n 2, 1) := by decide +kernel
theorem dX10_tellOfSpare_33 : decode cX10_tellOfSpare 33 = .ok (.putfield 39, 3) := by decide +kernel
theorem dX10_tellOfSpare_36 : decode cX10_tellOfSpare 36 = .ok (.aload_n 0, 1) := by decide +kernel
theorem dX10_tellOfSpare_37 : decode cX10_tellOfSpare 37 = .ok (.iconst 1, 1) := by decide +kernel
theorem dX10_tellOfSpare_38 : decode cX10_tellOfSpare 38 = .ok (.putfield 53, 3) := by decide +kernel
theorem dX10_tellOfSpare_41 : decode cX10_tellOfSpare 41 = .ok (.return_, 1) := by decide +kernel
theorem dX10_countSpare_0 : decode cX10_countSpare 0 = .ok (.aload_n 0, 1) := by decide +kernel
theorem dX10_countSpare_1 : decode cX10_countSpare 1 = .ok (.dup, 1) := by decide +kernel
theorem dX10_countSpare_2 : decode cX10_countSpare 2 = .ok (.getfield 46, 3) := by decide +kernel
theorem dX10_countSpare_5 : decode cX10_countSpare 5 = .ok (.iconst 1, 1) := by decide +kernel
theorem dX10_countSpare_6 : decode cX10_countSpare 6 = .ok (.iadd, 1) := by decide +kernel
theorem dX10_countSpare_7 : decode cX10_countSpare 7 = .ok (.putfield 46, 3) := by decide +kernel
theorem dX10_countSpare_10 : decode cX10_countSpare 10 = .ok (.aload_n 0, 1) := by decide +kernel
theorem dX10_countSpare_11 : decode cX10_countSpare 11 = .ok (.dup, 1) := by decide +kernel
theorem dX10_countSpare_12 : decode cX10_countSpare 12 = .ok (.getfield 50, 3) := by decide +kernel
theorem dX10_countSpare_15 : decode cX10_countSpare 15 = .ok (.aload_n 0, 1) := by decide +kernel
theorem dX10_countSpare_16 : decode cX10_countSpare 16 = .ok (.getfield 39, 3) := by decide +kernel
theorem dX10_countSpare_19 : decode cX10_countSpare 19 = .ok (.getfield 78, 3) := by decide +kernel
theorem dX10_countSpare_22 : decode cX10_countSpare 22 = .ok (.iconst (-1), 1) := by decide +kernel
theorem dX10_countSpare_23 : decode cX10_countSpare 23 = .ok (.if_icmp .ne 7, 3) := by decide +kernel
theorem dX10_countSpare_26 : decode cX10_countSpare 26 = .ok (.iconst 1, 1) := by decide +kernel
theorem dX10_countSpare_27 : decode cX10_countSpare 27 = .ok (.goto 4, 3) := by decide +kernel
theorem dX10_countSpare_30 : decode cX10_countSpare 30 = .ok (.iconst 0, 1) := by decide +kernel
theorem dX10_countSpare_31 : decode cX10_countSpare 31 = .ok (.iadd, 1) := by decide +kernel
theorem dX10_countSpare_32 : decode cX10_countSpare 32 = .ok (.putfield 50, 3) := by decide +kernel
theorem dX10_countSpare_35 : decode cX10_countSpare 35 = .ok (.return_, 1) := by decide +kernel
theorem dX10_tryDrawn_0 : decode cX10_tryDrawn 0 = .ok (.aload_n 0, 1) := by decide +kernel
theorem dX10_tryDrawn_1 : decode cX10_tryDrawn 1 = .ok (.iconst 0, 1) := by decide +kernel
theorem dX10_tryDrawn_2 : decode cX10_tryDrawn 2 = .ok (.putfield 46, 3) := by decide +kernel
theorem dX10_tryDrawn_5 : decode cX10_tryDrawn 5 = .ok (.aload_n 0, 1) := by decide +kernel
theorem dX10_tryDrawn_6 : decode cX10_tryDrawn 6 = .ok (.iconst 0, 1) := by decide +kernel
theorem dX10_tryDrawn_7 : decode cX10_tryDrawn 7 = .ok (.putfield 50, 3) := by decide +kernel
theorem dX10_tryDrawn_10 : decode cX10_tryDrawn 10 = .ok (.iconst 0, 1) := by decide +kernel
theorem dX10_tryDrawn_11 : decode cX10_tryDrawn 11 = .ok (.istore 4, 2) := by decide +kernel
theorem dX10_tryDrawn_13 : decode cX10_tryDrawn 13 = .ok (.iload 4, 2) := by decide +kernel
theorem dX10_tryDrawn_15 : decode cX10_tryDrawn 15 = .ok (.iload_n 3, 1) := by decide +kernel
theorem dX10_tryDrawn_16 : decode cX10_tryDrawn 16 = .ok (.if_icmp .ge 60, 3) := by decide +kernel
theorem dX10_tryDrawn_19 : decode cX10_tryDrawn 19 = .ok (.aload_n 0, 1) := by decide +kernel
theorem dX10_tryDrawn_20 : decode cX10_tryDrawn 20 = .ok (.iload_n 1, 1) := by decide +kernel
theorem dX10_tryDrawn_21 : decode cX10_tryDrawn 21 = .ok (.iload_n 2, 1) := by decide +kernel
theorem dX10_tryDrawn_22 : decode cX10_tryDrawn 22 = .ok (.sipush 7919, 3) := by decide +kernel
theorem dX10_tryDrawn_25 : decode cX10_tryDrawn 25 = .ok (.iload 4, 2) := by decide +kernel
theorem dX10_tryDrawn_27 : decode cX10_tryDrawn 27 = .ok (.imul, 1) := by decide +kernel
theorem dX10_tryDrawn_28 : decode cX10_tryDrawn 28 = .ok (.iadd, 1) := by decide +kernel
theorem dX10_tryDrawn_29 : decode cX10_tryDrawn 29 = .ok (.invokevirtual 81, 3) := by decide +kernel
theorem dX10_tryDrawn_32 : decode cX10_tryDrawn 32 = .ok (.aload_n 0, 1) := by decide +kernel
theorem dX10_tryDrawn_33 : decode cX10_tryDrawn 33 = .ok (.aload_n 0, 1) := by decide +kernel
theorem dX10_tryDrawn_34 : decode cX10_tryDrawn 34 = .ok (.getfield 29, 3) := by decide +kernel
theorem dX10_tryDrawn_37 : decode cX10_tryDrawn 37 = .ok (.aload_n 0, 1) := by decide +kernel
theorem dX10_tryDrawn_38 : decode cX10_tryDrawn 38 = .ok (.getfield 39, 3) := by decide +kernel
theorem dX10_tryDrawn_41 : decode cX10_tryDrawn 41 = .ok (.invokevirtual 74, 3) := by decide +kernel
theorem dX10_tryDrawn_44 : decode cX10_tryDrawn 44 = .ok (.aload_n 0, 1) := by decide +kernel
theorem dX10_tryDrawn_45 : decode cX10_tryDrawn 45 = .ok (.invokevirtual 85, 3) := by decide +kernel
theorem dX10_tryDrawn_48 : decode cX10_tryDrawn 48 = .ok (.aload_n 0, 1) := by decide +kernel
theorem dX10_tryDrawn_49 : decode cX10_tryDrawn 49 = .ok (.invokevirtual 88, 3) := by decide +kernel
theorem dX10_tryDrawn_52 : decode cX10_tryDrawn 52 = .ok (.aload_n 0, 1) := by decide +kernel
theorem dX10_tryDrawn_53 : decode cX10_tryDrawn 53 = .ok (.getfield 35, 3) := by decide +kernel
theorem dX10_tryDrawn_56 : decode cX10_tryDrawn 56 = .ok (.getfield 78, 3) := by decide +kernel
theorem dX10_tryDrawn_59 : decode cX10_tryDrawn 59 = .ok (.ifCond .le 11, 3) := by decide +kernel
theorem dX10_tryDrawn_62 : decode cX10_tryDrawn 62 = .ok (.aload_n 0, 1) := by decide +kernel
theorem dX10_tryDrawn_63 : decode cX10_tryDrawn 63 = .ok (.getfield 35, 3) := by decide +kernel
theorem dX10_tryDrawn_66 : decode cX10_tryDrawn 66 = .ok (.getfield 78, 3) := by decide +kernel
theorem dX10_tryDrawn_69 : decode cX10_tryDrawn 69 = .ok (.ireturn, 1) := by decide +kernel
theorem dX10_tryDrawn_70 : decode cX10_tryDrawn 70 = .ok (.iinc 4 1, 3) := by decide +kernel
theorem dX10_tryDrawn_73 : decode cX10_tryDrawn 73 = .ok (.goto (-60), 3) := by decide +kernel
theorem dX10_tryDrawn_76 : decode cX10_tryDrawn 76 = .ok (.iconst 0, 1) := by decide +kernel
theorem dX10_tryDrawn_77 : decode cX10_tryDrawn 77 = .ok (.ireturn, 1) := by decide +kernel
theorem dX10_drawNext_0 : decode cX10_drawNext 0 = .ok (.aload_n 0, 1) := by decide +kernel
theorem dX10_drawNext_1 : decode cX10_drawNext 1 = .ok (.ldc 91, 2) := by decide +kernel
theorem dX10_drawNext_3 : decode cX10_drawNext 3 = .ok (.aload_n 0, 1) := by decide +kernel
theorem dX10_drawNext_4 : decode cX10_drawNext 4 = .ok (.getfield 92, 3) := by decide +kernel
theorem dX10_drawNext_7 : decode cX10_drawNext 7 = .ok (.imul, 1) := by decide +kernel
theorem dX10_drawNext_8 : decode cX10_drawNext 8 = .ok (.sipush 12345, 3) := by decide +kernel
theorem dX10_drawNext_11 : decode cX10_drawNext 11 = .ok (.iadd, 1) := by decide +kernel
theorem dX10_drawNext_12 : decode cX10_drawNext 12 = .ok (.putfield 92, 3) := by decide +kernel
theorem dX10_drawNext_15 : decode cX10_drawNext 15 = .ok (.aload_n 0, 1) := by decide +kernel
theorem dX10_drawNext_16 : decode cX10_drawNext 16 = .ok (.getfield 92, 3) := by decide +kernel
theorem dX10_drawNext_19 : decode cX10_drawNext 19 = .ok (.bipush 16, 2) := by decide +kernel
theorem dX10_drawNext_21 : decode cX10_drawNext 21 = .ok (.iushr, 1) := by decide +kernel
theorem dX10_drawNext_22 : decode cX10_drawNext 22 = .ok (.sipush 32767, 3) := by decide +kernel
theorem dX10_drawNext_25 : decode cX10_drawNext 25 = .ok (.iand, 1) := by decide +kernel
theorem dX10_drawNext_26 : decode cX10_drawNext 26 = .ok (.ireturn, 1) := by decide +kernel
theorem dX10_drawRow_0 : decode cX10_drawRow 0 = .ok (.aload_n 0, 1) := by decide +kernel
theorem dX10_drawRow_1 : decode cX10_drawRow 1 = .ok (.iload_n 2, 1) := by decide +kernel
theorem dX10_drawRow_2 : decode cX10_drawRow 2 = .ok (.putfield 92, 3) := by decide +kernel
theorem dX10_drawRow_5 : decode cX10_drawRow 5 = .ok (.aload_n 0, 1) := by decide +kernel
theorem dX10_drawRow_6 : decode cX10_drawRow 6 = .ok (.getfield 29, 3) := by decide +kernel
theorem dX10_drawRow_9 : decode cX10_drawRow 9 = .ok (.invokevirtual 42, 3) := by decide +kernel
theorem dX10_drawRow_12 : decode cX10_drawRow 12 = .ok (.iconst 1, 1) := by decide +kernel
theorem dX10_drawRow_13 : decode cX10_drawRow 13 = .ok (.aload_n 0, 1) := by decide +kernel
theorem dX10_drawRow_14 : decode cX10_drawRow 14 = .ok (.invokevirtual 95, 3) := by decide +kernel
theorem dX10_drawRow_17 : decode cX10_drawRow 17 = .ok (.bipush 10, 2) := by decide +kernel
theorem dX10_drawRow_19 : decode cX10_drawRow 19 = .ok (.irem, 1) := by decide +kernel
theorem dX10_drawRow_20 : decode cX10_drawRow 20 = .ok (.iadd, 1) := by decide +kernel
theorem dX10_drawRow_21 : decode cX10_drawRow 21 = .ok (.istore_n 3, 1) := by decide +kernel
theorem dX10_drawRow_22 : decode cX10_drawRow 22 = .ok (.aload_n 0, 1) := by decide +kernel
theorem dX10_drawRow_23 : decode cX10_drawRow 23 = .ok (.getfield 29, 3) := by decide +kernel
theorem dX10_drawRow_26 : decode cX10_drawRow 26 = .ok (.iload_n 1, 1) := by decide +kernel
theorem dX10_drawRow_27 : decode cX10_drawRow 27 = .ok (.invokevirtual 64, 3) := by decide +kernel
theorem dX10_drawRow_30 : decode cX10_drawRow 30 = .ok (.iconst 1, 1) := by decide +kernel
theorem dX10_drawRow_31 : decode cX10_drawRow 31 = .ok (.istore 4, 2) := by decide +kernel
theorem dX10_drawRow_33 : decode cX10_drawRow 33 = .ok (.iconst 1, 1) := by decide +kernel
theorem dX10_drawRow_34 : decode cX10_drawRow 34 = .ok (.istore 5, 2) := by decide +kernel
theorem dX10_drawRow_36 : decode cX10_drawRow 36 = .ok (.iload 5, 2) := by decide +kernel
theorem dX10_drawRow_38 : decode cX10_drawRow 38 = .ok (.iload_n 3, 1) := by decide +kernel
theorem dX10_drawRow_39 : decode cX10_drawRow 39 = .ok (.if_icmp .ge 101, 3) := by decide +kernel
theorem dX10_drawRow_42 : decode cX10_drawRow 42 = .ok (.iload 4, 2) := by decide +kernel
theorem dX10_drawRow_44 : decode cX10_drawRow 44 = .ok (.ifCond .eq 96, 3) := by decide +kernel
theorem dX10_drawRow_47 : decode cX10_drawRow 47 = .ok (.aload_n 0, 1) := by decide +kernel
theorem dX10_drawRow_48 : decode cX10_drawRow 48 = .ok (.invokevirtual 95, 3) := by decide +kernel
theorem dX10_drawRow_51 : decode cX10_drawRow 51 = .ok (.bipush 8, 2) := by decide +kernel
theorem dX10_drawRow_53 : decode cX10_drawRow 53 = .ok (.irem, 1) := by decide +kernel
theorem dX10_drawRow_54 : decode cX10_drawRow 54 = .ok (.ifCond .ne 18, 3) := by decide +kernel
theorem dX10_drawRow_57 : decode cX10_drawRow 57 = .ok (.aload_n 0, 1) := by decide +kernel
theorem dX10_drawRow_58 : decode cX10_drawRow 58 = .ok (.getfield 29, 3) := by decide +kernel
theorem dX10_drawRow_61 : decode cX10_drawRow 61 = .ok (.getfield 67, 3) := by decide +kernel
theorem dX10_drawRow_64 : decode cX10_drawRow 64 = .ok (.iconst 3, 1) := by decide +kernel
theorem dX10_drawRow_65 : decode cX10_drawRow 65 = .ok (.if_icmp .ge 7, 3) := by decide +kernel
theorem dX10_drawRow_68 : decode cX10_drawRow 68 = .ok (.iconst 1, 1) := by decide +kernel
theorem dX10_drawRow_69 : decode cX10_drawRow 69 = .ok (.goto 4, 3) := by decide +kernel
theorem dX10_drawRow_72 : decode cX10_drawRow 72 = .ok (.iconst 0, 1) := by decide +kernel
theorem dX10_drawRow_73 : decode cX10_drawRow 73 = .ok (.istore 6, 2) := by decide +kernel
theorem dX10_drawRow_75 : decode cX10_drawRow 75 = .ok (.iload 6, 2) := by decide +kernel
theorem dX10_drawRow_77 : decode cX10_drawRow 77 = .ok (.ifCond .ne 15, 3) := by decide +kernel
theorem dX10_drawRow_80 : decode cX10_drawRow 80 = .ok (.aload_n 0, 1) := by decide +kernel
theorem dX10_drawRow_81 : decode cX10_drawRow 81 = .ok (.getfield 9, 3) := by decide +kernel
theorem dX10_drawRow_84 : decode cX10_drawRow 84 = .ok (.iload_n 1, 1) := by decide +kernel
theorem dX10_drawRow_85 : decode cX10_drawRow 85 = .ok (.iconst 0, 1) := by decide +kernel
theorem dX10_drawRow_86 : decode cX10_drawRow 86 = .ok (.invokevirtual 99, 3) := by decide +kernel
theorem dX10_drawRow_89 : decode cX10_drawRow 89 = .ok (.ifCond .ne 32, 3) := by decide +kernel
theorem dX10_drawRow_92 : decode cX10_drawRow 92 = .ok (.aload_n 0, 1) := by decide +kernel
theorem dX10_drawRow_93 : decode cX10_drawRow 93 = .ok (.getfield 29, 3) := by decide +kernel
theorem dX10_drawRow_96 : decode cX10_drawRow 96 = .ok (.getfield 67, 3) := by decide +kernel
theorem dX10_drawRow_99 : decode cX10_drawRow 99 = .ok (.iconst 3, 1) := by decide +kernel
theorem dX10_drawRow_100 : decode cX10_drawRow 100 = .ok (.if_icmp .ge 7, 3) := by decide +kernel
theorem dX10_drawRow_103 : decode cX10_drawRow 103 = .ok (.iconst 1, 1) := by decide +kernel
theorem dX10_drawRow_104 : decode cX10_drawRow 104 = .ok (.goto 4, 3) := by decide +kernel
theorem dX10_drawRow_107 : decode cX10_drawRow 107 = .ok (.iconst 0, 1) := by decide +kernel
theorem dX10_drawRow_108 : decode cX10_drawRow 108 = .ok (.istore 4, 2) := by decide +kernel
theorem dX10_drawRow_110 : decode cX10_drawRow 110 = .ok (.aload_n 0, 1) := by decide +kernel
theorem dX10_drawRow_111 : decode cX10_drawRow 111 = .ok (.getfield 29, 3) := by decide +kernel
theorem dX10_drawRow_114 : decode cX10_drawRow 114 = .ok (.iload_n 1, 1) := by decide +kernel
theorem dX10_drawRow_115 : decode cX10_drawRow 115 = .ok (.invokevirtual 64, 3) := by decide +kernel
theorem dX10_drawRow_118 : decode cX10_drawRow 118 = .ok (.goto 16, 3) := by decide +kernel
theorem dX10_drawRow_121 : decode cX10_drawRow 121 = .ok (.aload_n 0, 1) := by decide +kernel
theorem dX10_drawRow_122 : decode cX10_drawRow 122 = .ok (.aload_n 0, 1) := by decide +kernel
theorem dX10_drawRow_123 : decode cX10_drawRow 123 = .ok (.getfield 9, 3) := by decide +kernel
theorem dX10_drawRow_126 : decode cX10_drawRow 126 = .ok (.getfield 105, 3) := by decide +kernel
theorem dX10_drawRow_129 : decode cX10_drawRow 129 = .ok (.iload_n 1, 1) := by decide +kernel
theorem dX10_drawRow_130 : decode cX10_drawRow 130 = .ok (.aaload, 1) := by decide +kernel
theorem dX10_drawRow_131 : decode cX10_drawRow 131 = .ok (.invokevirtual 109, 3) := by decide +kernel
theorem dX10_drawRow_134 : decode cX10_drawRow 134 = .ok (.iinc 5 1, 3) := by decide +kernel
theorem dX10_drawRow_137 : decode cX10_drawRow 137 = .ok (.goto (-101), 3) := by decide +kernel
theorem dX10_drawRow_140 : decode cX10_drawRow 140 = .ok (.return_, 1) := by decide +kernel
theorem dX10_drawCall_0 : decode cX10_drawCall 0 = .ok (.aload_n 0, 1) := by decide +kernel
theorem dX10_drawCall_1 : decode cX10_drawCall 1 = .ok (.invokevirtual 95, 3) := by decide +kernel
theorem dX10_drawCall_4 : decode cX10_drawCall 4 = .ok (.aload_n 0, 1) := by decide +kernel
theorem dX10_drawCall_5 : decode cX10_drawCall 5 = .ok (.getfield 29, 3) := by decide +kernel
theorem dX10_drawCall_8 : decode cX10_drawCall 8 = .ok (.getfield 67, 3) := by decide +kernel
theorem dX10_drawCall_11 : decode cX10_drawCall 11 = .ok (.iconst 1, 1) := by decide +kernel
theorem dX10_drawCall_12 : decode cX10_drawCall 12 = .ok (.invokestatic 113, 3) := by decide +kernel
theorem dX10_drawCall_15 : decode cX10_drawCall 15 = .ok (.irem, 1) := by decide +kernel
theorem dX10_drawCall_16 : decode cX10_drawCall 16 = .ok (.istore_n 2, 1) := by decide +kernel
theorem dX10_drawCall_17 : decode cX10_drawCall 17 = .ok (.aload_n 0, 1) := by decide +kernel
theorem dX10_drawCall_18 : decode cX10_drawCall 18 = .ok (.invokevirtual 95, 3) := by decide +kernel
theorem dX10_drawCall_21 : decode cX10_drawCall 21 = .ok (.aload_n 1, 1) := by decide +kernel
theorem dX10_drawCall_22 : decode cX10_drawCall 22 = .ok (.getfield 119, 3) := by decide +kernel
theorem dX10_drawCall_25 : decode cX10_drawCall 25 = .ok (.iconst 1, 1) := by decide +kernel
theorem dX10_drawCall_26 : decode cX10_drawCall 26 = .ok (.invokestatic 113, 3) := by decide +kernel
theorem dX10_drawCall_29 : decode cX10_drawCall 29 = .ok (.irem, 1) := by decide +kernel
theorem dX10_drawCall_30 : decode cX10_drawCall 30 = .ok (.istore_n 3, 1) := by decide +kernel
theorem dX10_drawCall_31 : decode cX10_drawCall 31 = .ok (.aload_n 0, 1) := by decide +kernel
theorem dX10_drawCall_32 : decode cX10_drawCall 32 = .ok (.getfield 9, 3) := by decide +kernel
theorem dX10_drawCall_35 : decode cX10_drawCall 35 = .ok (.getfield 124, 3) := by decide +kernel
theorem dX10_drawCall_38 : decode cX10_drawCall 38 = .ok (.aload_n 1, 1) := by decide +kernel
theorem dX10_drawCall_39 : decode cX10_drawCall 39 = .ok (.getfield 128, 3) := by decide +kernel
theorem dX10_drawCall_42 : decode cX10_drawCall 42 = .ok (.iload_n 3, 1) := by decide +kernel
theorem dX10_drawCall_43 : decode cX10_drawCall 43 = .ok (.iaload, 1) := by decide +kernel
theorem dX10_drawCall_44 : decode cX10_drawCall 44 = .ok (.aaload, 1) := by decide +kernel
theorem dX10_drawCall_45 : decode cX10_drawCall 45 = .ok (.astore 4, 2) := by decide +kernel
theorem dX10_drawCall_47 : decode cX10_drawCall 47 = .ok (.aload_n 0, 1) := by decide +kernel
theorem dX10_drawCall_48 : decode cX10_drawCall 48 = .ok (.aload 4, 2) := by decide +kernel
theorem dX10_drawCall_50 : decode cX10_drawCall 50 = .ok (.iconst 0, 1) := by decide +kernel
theorem dX10_drawCall_51 : decode cX10_drawCall 51 = .ok (.invokevirtual 132, 3) := by decide +kernel
theorem dX10_drawCall_54 : decode cX10_drawCall 54 = .ok (.istore 5, 2) := by decide +kernel
theorem dX10_drawCall_56 : decode cX10_drawCall 56 = .ok (.aload_n 0, 1) := by decide +kernel
theorem dX10_drawCall_57 : decode cX10_drawCall 57 = .ok (.aload 4, 2) := by decide +kernel
theorem dX10_drawCall_59 : decode cX10_drawCall 59 = .ok (.iconst 1, 1) := by decide +kernel
theorem dX10_drawCall_60 : decode cX10_drawCall 60 = .ok (.invokevirtual 132, 3) := by decide +kernel
theorem dX10_drawCall_63 : decode cX10_drawCall 63 = .ok (.istore 6, 2) := by decide +kernel
theorem dX10_drawCall_65 : decode cX10_drawCall 65 = .ok (.aload_n 0, 1) := by decide +kernel
theorem dX10_drawCall_66 : decode cX10_drawCall 66 = .ok (.aload 4, 2) := by decide +kernel
theorem dX10_drawCall_68 : decode cX10_drawCall 68 = .ok (.iconst 2, 1) := by decide +kernel
theorem dX10_drawCall_69 : decode cX10_drawCall 69 = .ok (.invokevirtual 132, 3) := by decide +kernel
theorem dX10_drawCall_72 : decode cX10_drawCall 72 = .ok (.istore 7, 2) := by decide +kernel
theorem dX10_drawCall_74 : decode cX10_drawCall 74 = .ok (.aload_n 0, 1) := by decide +kernel
theorem dX10_drawCall_75 : decode cX10_drawCall 75 = .ok (.getfield 29, 3) := by decide +kernel
theorem dX10_drawCall_78 : decode cX10_drawCall 78 = .ok (.iload_n 2, 1) := by decide +kernel
theorem dX10_drawCall_79 : decode cX10_drawCall 79 = .ok (.iload_n 3, 1) := by decide +kernel
theorem dX10_drawCall_80 : decode cX10_drawCall 80 = .ok (.iload 5, 2) := by decide +kernel
theorem dX10_drawCall_82 : decode cX10_drawCall 82 = .ok (.iload 6, 2) := by decide +kernel
theorem dX10_drawCall_84 : decode cX10_drawCall 84 = .ok (.iload 7, 2) := by decide +kernel
theorem dX10_drawCall_86 : decode cX10_drawCall 86 = .ok (.invokevirtual 70, 3) := by decide +kernel
theorem dX10_drawCall_89 : decode cX10_drawCall 89 = .ok (.return_, 1) := by decide +kernel
theorem dX10_drawArgument_0 : decode cX10_drawArgument 0 = .ok (.iload_n 2, 1) := by decide +kernel
theorem dX10_drawArgument_1 : decode cX10_drawArgument 1 = .ok (.aload_n 1, 1) := by decide +kernel
theorem dX10_drawArgument_2 : decode cX10_drawArgument 2 = .ok (.getfield 136, 3) := by decide +kernel
theorem dX10_drawArgument_5 : decode cX10_drawArgument 5 = .ok (.if_icmp .lt 5, 3) := by decide +kernel
theorem dX10_drawArgument_8 : decode cX10_drawArgument 8 = .ok (.iconst 0, 1) := by decide +kernel
theorem dX10_drawArgument_9 : decode cX10_drawArgument 9 = .ok (.ireturn, 1) := by decide +kernel
theorem dX10_drawArgument_10 : decode cX10_drawArgument 10 = .ok (.aload_n 0, 1) := by decide +kernel
theorem dX10_drawArgument_11 : decode cX10_drawArgument 11 = .ok (.invokevirtual 95, 3) := by decide +kernel
theorem dX10_drawArgument_14 : decode cX10_drawArgument 14 = .ok (.iconst 4, 1) := by decide +kernel
theorem dX10_drawArgument_15 : decode cX10_drawArgument 15 = .ok (.irem, 1) := by decide +kernel
theorem dX10_drawArgument_16 : decode cX10_drawArgument 16 = .ok (.tableswitch 48 0 2 #[28, 35, 42], 28) := by decide +kernel
theorem dX10_drawArgument_44 : decode cX10_drawArgument 44 = .ok (.aload_n 1, 1) := by decide +kernel
theorem dX10_drawArgument_45 : decode cX10_drawArgument 45 = .ok (.getfield 141, 3) := by decide +kernel
theorem dX10_drawArgument_48 : decode cX10_drawArgument 48 = .ok (.iload_n 2, 1) := by decide +kernel
theorem dX10_drawArgument_49 : decode cX10_drawArgument 49 = .ok (.iaload, 1) := by decide +kernel
theorem dX10_drawArgument_50 : decode cX10_drawArgument 50 = .ok (.ireturn, 1) := by decide +kernel
theorem dX10_drawArgument_51 : decode cX10_drawArgument 51 = .ok (.aload_n 1, 1) := by decide +kernel
theorem dX10_drawArgument_52 : decode cX10_drawArgument 52 = .ok (.getfield 144, 3) := by decide +kernel
theorem dX10_drawArgument_55 : decode cX10_drawArgument 55 = .ok (.iload_n 2, 1) := by decide +kernel
theorem dX10_drawArgument_56 : decode cX10_drawArgument 56 = .ok (.iaload, 1) := by decide +kernel
theorem dX10_drawArgument_57 : decode cX10_drawArgument 57 = .ok (.ireturn, 1) := by decide +kernel
theorem dX10_drawArgument_58 : decode cX10_drawArgument 58 = .ok (.aload_n 1, 1) := by decide +kernel
theorem dX10_drawArgument_59 : decode cX10_drawArgument 59 = .ok (.iload_n 2, 1) := by decide +kernel
theorem dX10_drawArgument_60 : decode cX10_drawArgument 60 = .ok (.invokevirtual 147, 3) := by decide +kernel
theorem dX10_drawArgument_63 : decode cX10_drawArgument 63 = .ok (.ireturn, 1) := by decide +kernel
theorem dX10_drawArgument_64 : decode cX10_drawArgument 64 = .ok (.aload_n 1, 1) := by decide +kernel
theorem dX10_drawArgument_65 : decode cX10_drawArgument 65 = .ok (.getfield 144, 3) := by decide +kernel
theorem dX10_drawArgument_68 : decode cX10_drawArgument 68 = .ok (.iload_n 2, 1) := by decide +kernel
theorem dX10_drawArgument_69 : decode cX10_drawArgument 69 = .ok (.iaload, 1) := by decide +kernel
theorem dX10_drawArgument_70 : decode cX10_drawArgument 70 = .ok (.i2l, 1) := by decide +kernel
theorem dX10_drawArgument_71 : decode cX10_drawArgument 71 = .ok (.aload_n 1, 1) := by decide +kernel
theorem dX10_drawArgument_72 : decode cX10_drawArgument 72 = .ok (.getfield 141, 3) := by decide +kernel
theorem dX10_drawArgument_75 : decode cX10_drawArgument 75 = .ok (.iload_n 2, 1) := by decide +kernel
theorem dX10_drawArgument_76 : decode cX10_drawArgument 76 = .ok (.iaload, 1) := by decide +kernel
theorem dX10_drawArgument_77 : decode cX10_drawArgument 77 = .ok (.i2l, 1) := by decide +kernel
theorem dX10_drawArgument_78 : decode cX10_drawArgument 78 = .ok (.lsub, 1) := by decide +kernel
theorem dX10_drawArgument_79 : decode cX10_drawArgument 79 = .ok (.lconst 1, 1) := by decide +kernel
theorem dX10_drawArgument_80 : decode cX10_drawArgument 80 = .ok (.ladd, 1) := by decide +kernel
theorem dX10_drawArgument_81 : decode cX10_drawArgument 81 = .ok (.lconst 1, 1) := by decide +kernel
theorem dX10_drawArgument_82 : decode cX10_drawArgument 82 = .ok (.invokestatic 151, 3) := by decide +kernel
theorem dX10_drawArgument_85 : decode cX10_drawArgument 85 = .ok (.lstore_n 3, 1) := by decide +kernel
theorem dX10_drawArgument_86 : decode cX10_drawArgument 86 = .ok (.aload_n 1, 1) := by decide +kernel
theorem dX10_drawArgument_87 : decode cX10_drawArgument 87 = .ok (.getfield 141, 3) := by decide +kernel
theorem dX10_drawArgument_90 : decode cX10_drawArgument 90 = .ok (.iload_n 2, 1) := by decide +kernel
theorem dX10_drawArgument_91 : decode cX10_drawArgument 91 = .ok (.iaload, 1) := by decide +kernel
theorem dX10_drawArgument_92 : decode cX10_drawArgument 92 = .ok (.i2l, 1) := by decide +kernel
theorem dX10_drawArgument_93 : decode cX10_drawArgument 93 = .ok (.aload_n 0, 1) := by decide +kernel
theorem dX10_drawArgument_94 : decode cX10_drawArgument 94 = .ok (.invokevirtual 95, 3) := by decide +kernel
theorem dX10_drawArgument_97 : decode cX10_drawArgument 97 = .ok (.i2l, 1) := by decide +kernel
theorem dX10_drawArgument_98 : decode cX10_drawArgument 98 = .ok (.lload_n 3, 1) := by decide +kernel
theorem dX10_drawArgument_99 : decode cX10_drawArgument 99 = .ok (.lrem, 1) := by decide +kernel
theorem dX10_drawArgument_100 : decode cX10_drawArgument 100 = .ok (.ladd, 1) := by decide +kernel
theorem dX10_drawArgument_101 : decode cX10_drawArgument 101 = .ok (.l2i, 1) := by decide +kernel
theorem dX10_drawArgument_102 : decode cX10_drawArgument 102 = .ok (.ireturn, 1) := by decide +kernel
theorem dX10_runThrough_0 : decode cX10_runThrough 0 = .ok (.aload_n 2, 1) := by decide +kernel
theorem dX10_runThrough_1 : decode cX10_runThrough 1 = .ok (.invokevirtual 45, 3) := by decide +kernel
theorem dX10_runThrough_4 : decode cX10_runThrough 4 = .ok (.iconst 0, 1) := by decide +kernel
theorem dX10_runThrough_5 : decode cX10_runThrough 5 = .ok (.istore_n 3, 1) := by decide +kernel
theorem dX10_runThrough_6 : decode cX10_runThrough 6 = .ok (.iload_n 3, 1) := by decide +kernel
theorem dX10_runThrough_7 : decode cX10_runThrough 7 = .ok (.aload_n 1, 1) := by decide +kernel
theorem dX10_runThrough_8 : decode cX10_runThrough 8 = .ok (.getfield 57, 3) := by decide +kernel
theorem dX10_runThrough_11 : decode cX10_runThrough 11 = .ok (.if_icmp .ge 48, 3) := by decide +kernel
theorem dX10_runThrough_14 : decode cX10_runThrough 14 = .ok (.aload_n 2, 1) := by decide +kernel
theorem dX10_runThrough_15 : decode cX10_runThrough 15 = .ok (.getfield 78, 3) := by decide +kernel
theorem dX10_runThrough_18 : decode cX10_runThrough 18 = .ok (.ifCond .ne 41, 3) := by decide +kernel
theorem dX10_runThrough_21 : decode cX10_runThrough 21 = .ok (.aload_n 2, 1) := by decide +kernel
theorem dX10_runThrough_22 : decode cX10_runThrough 22 = .ok (.iload_n 3, 1) := by decide +kernel
theorem dX10_runThrough_23 : decode cX10_runThrough 23 = .ok (.putfield 159, 3) := by decide +kernel
theorem dX10_runThrough_26 : decode cX10_runThrough 26 = .ok (.aload_n 1, 1) := by decide +kernel
theorem dX10_runThrough_27 : decode cX10_runThrough 27 = .ok (.getfield 177, 3) := by decide +kernel
theorem dX10_runThrough_30 : decode cX10_runThrough 30 = .ok (.iload_n 3, 1) := by decide +kernel
theorem dX10_runThrough_31 : decode cX10_runThrough 31 = .ok (.iaload, 1) := by decide +kernel
theorem dX10_runThrough_32 : decode cX10_runThrough 32 = .ok (.iconst (-1), 1) := by decide +kernel
theorem dX10_runThrough_33 : decode cX10_runThrough 33 = .ok (.if_icmp .ne 13, 3) := by decide +kernel
theorem dX10_runThrough_36 : decode cX10_runThrough 36 = .ok (.aload_n 0, 1) := by decide +kernel
theorem dX10_runThrough_37 : decode cX10_runThrough 37 = .ok (.aload_n 1, 1) := by decide +kernel
theorem dX10_runThrough_38 : decode cX10_runThrough 38 = .ok (.aload_n 2, 1) := by decide +kernel
theorem dX10_runThrough_39 : decode cX10_runThrough 39 = .ok (.iload_n 3, 1) := by decide +kernel
theorem dX10_runThrough_40 : decode cX10_runThrough 40 = .ok (.invokevirtual 180, 3) := by decide +kernel
theorem dX10_runThrough_43 : decode cX10_runThrough 43 = .ok (.goto 10, 3) := by decide +kernel
theorem dX10_runThrough_46 : decode cX10_runThrough 46 = .ok (.aload_n 0, 1) := by decide +kernel
theorem dX10_runThrough_47 : decode cX10_runThrough 47 = .ok (.aload_n 1, 1) := by decide +kernel
theorem dX10_runThrough_48 : decode cX10_runThrough 48 = .ok (.aload_n 2, 1) := by decide +kernel
theorem dX10_runThrough_49 : decode cX10_runThrough 49 = .ok (.iload_n 3, 1) := by decide +kernel
theorem dX10_runThrough_50 : decode cX10_runThrough 50 = .ok (.invokevirtual 184, 3) := by decide +kernel
theorem dX10_runThrough_53 : decode cX10_runThrough 53 = .ok (.iinc 3 1, 3) := by decide +kernel
theorem dX10_runThrough_56 : decode cX10_runThrough 56 = .ok (.goto (-50), 3) := by decide +kernel
theorem dX10_runThrough_59 : decode cX10_runThrough 59 = .ok (.return_, 1) := by decide +kernel
theorem dX10_doMake_0 : decode cX10_doMake 0 = .ok (.aload_n 1, 1) := by decide +kernel
theorem dX10_doMake_1 : decode cX10_doMake 1 = .ok (.getfield 187, 3) := by decide +kernel
theorem dX10_doMake_4 : decode cX10_doMake 4 = .ok (.iload_n 3, 1) := by decide +kernel
theorem dX10_doMake_5 : decode cX10_doMake 5 = .ok (.aaload, 1) := by decide +kernel
theorem dX10_doMake_6 : decode cX10_doMake 6 = .ok (.iconst 0, 1) := by decide +kernel
theorem dX10_doMake_7 : decode cX10_doMake 7 = .ok (.iaload, 1) := by decide +kernel
theorem dX10_doMake_8 : decode cX10_doMake 8 = .ok (.istore 4, 2) := by decide +kernel
theorem dX10_doMake_10 : decode cX10_doMake 10 = .ok (.aload_n 2, 1) := by decide +kernel
theorem dX10_doMake_11 : decode cX10_doMake 11 = .ok (.getfield 191, 3) := by decide +kernel
theorem dX10_doMake_14 : decode cX10_doMake 14 = .ok (.istore 5, 2) := by decide +kernel
theorem dX10_doMake_16 : decode cX10_doMake 16 = .ok (.aload_n 0, 1) := by decide +kernel
theorem dX10_doMake_17 : decode cX10_doMake 17 = .ok (.getfield 9, 3) := by decide +kernel
theorem dX10_doMake_20 : decode cX10_doMake 20 = .ok (.iload 4, 2) := by decide +kernel
theorem dX10_doMake_22 : decode cX10_doMake 22 = .ok (.invokevirtual 192, 3) := by decide +kernel
theorem dX10_doMake_25 : decode cX10_doMake 25 = .ok (.ifCond .eq 9, 3) := by decide +kernel
theorem dX10_doMake_28 : decode cX10_doMake 28 = .ok (.iload 5, 2) := by decide +kernel
theorem dX10_doMake_30 : decode cX10_doMake 30 = .ok (.iconst 3, 1) := by decide +kernel
theorem dX10_doMake_31 : decode cX10_doMake 31 = .ok (.if_icmp .lt 4, 3) := by decide +kernel
theorem dX10_doMake_34 : decode cX10_doMake 34 = .ok (.return_, 1) := by decide +kernel
theorem dX10_doMake_35 : decode cX10_doMake 35 = .ok (.aload_n 0, 1) := by decide +kernel
theorem dX10_doMake_36 : decode cX10_doMake 36 = .ok (.getfield 9, 3) := by decide +kernel
theorem dX10_doMake_39 : decode cX10_doMake 39 = .ok (.getfield 105, 3) := by decide +kernel
theorem dX10_doMake_42 : decode cX10_doMake 42 = .ok (.iload 4, 2) := by decide +kernel
theorem dX10_doMake_44 : decode cX10_doMake 44 = .ok (.aaload, 1) := by decide +kernel
theorem dX10_doMake_45 : decode cX10_doMake 45 = .ok (.getfield 196, 3) := by decide +kernel
theorem dX10_doMake_48 : decode cX10_doMake 48 = .ok (.istore 6, 2) := by decide +kernel
theorem dX10_doMake_50 : decode cX10_doMake 50 = .ok (.aload_n 2, 1) := by decide +kernel
theorem dX10_doMake_51 : decode cX10_doMake 51 = .ok (.getfield 199, 3) := by decide +kernel
theorem dX10_doMake_54 : decode cX10_doMake 54 = .ok (.iload 5, 2) := by decide +kernel
theorem dX10_doMake_56 : decode cX10_doMake 56 = .ok (.iload 4, 2) := by decide +kernel
theorem dX10_doMake_58 : decode cX10_doMake 58 = .ok (.iastore, 1) := by decide +kernel
theorem dX10_doMake_59 : decode cX10_doMake 59 = .ok (.aload_n 2, 1) := by decide +kernel
theorem dX10_doMake_60 : decode cX10_doMake 60 = .ok (.getfield 202, 3) := by decide +kernel
theorem dX10_doMake_63 : decode cX10_doMake 63 = .ok (.iload 5, 2) := by decide +kernel
theorem dX10_doMake_65 : decode cX10_doMake 65 = .ok (.iload 6, 2) := by decide +kernel
theorem dX10_doMake_67 : decode cX10_doMake 67 = .ok (.iastore, 1) := by decide +kernel
theorem dX10_doMake_68 : decode cX10_doMake 68 = .ok (.aload_n 0, 1) := by decide +kernel
theorem dX10_doMake_69 : decode cX10_doMake 69 = .ok (.getfield 9, 3) := by decide +kernel
theorem dX10_doMake_72 : decode cX10_doMake 72 = .ok (.getfield 105, 3) := by decide +kernel
theorem dX10_doMake_75 : decode cX10_doMake 75 = .ok (.iload 4, 2) := by decide +kernel
theorem dX10_doMake_77 : decode cX10_doMake 77 = .ok (.aaload, 1) := by decide +kernel
theorem dX10_doMake_78 : decode cX10_doMake 78 = .ok (.aload_n 2, 1) := by decide +kernel
theorem dX10_doMake_79 : decode cX10_doMake 79 = .ok (.getfield 205, 3) := by decide +kernel
theorem dX10_doMake_82 : decode cX10_doMake 82 = .ok (.iload 5, 2) := by decide +kernel
theorem dX10_doMake_84 : decode cX10_doMake 84 = .ok (.aaload, 1) := by decide +kernel
theorem dX10_doMake_85 : decode cX10_doMake 85 = .ok (.invokevirtual 208, 3) := by decide +kernel
theorem dX10_doMake_88 : decode cX10_doMake 88 = .ok (.aload_n 0, 1) := by decide +kernel
theorem dX10_doMake_89 : decode cX10_doMake 89 = .ok (.getfield 9, 3) := by decide +kernel
theorem dX10_doMake_92 : decode cX10_doMake 92 = .ok (.iload 6, 2) := by decide +kernel
theorem dX10_doMake_94 : decode cX10_doMake 94 = .ok (.invokevirtual 192, 3) := by decide +kernel
theorem dX10_doMake_97 : decode cX10_doMake 97 = .ok (.ifCond .eq 23, 3) := by decide +kernel
theorem dX10_doMake_100 : decode cX10_doMake 100 = .ok (.aload_n 0, 1) := by decide +kernel
theorem dX10_doMake_101 : decode cX10_doMake 101 = .ok (.getfield 9, 3) := by decide +kernel
theorem dX10_doMake_104 : decode cX10_doMake 104 = .ok (.getfield 105, 3) := by decide +kernel
theorem dX10_doMake_107 : decode cX10_doMake 107 = .ok (.iload 6, 2) := by decide +kernel
theorem dX10_doMake_109 : decode cX10_doMake 109 = .ok (.aaload, 1) := by decide +kernel
theorem dX10_doMake_110 : decode cX10_doMake 110 = .ok (.aload_n 2, 1) := by decide +kernel
theorem dX10_doMake_111 : decode cX10_doMake 111 = .ok (.getfield 212, 3) := by decide +kernel
theorem dX10_doMake_114 : decode cX10_doMake 114 = .ok (.iload 5, 2) := by decide +kernel
theorem dX10_doMake_116 : decode cX10_doMake 116 = .ok (.aaload, 1) := by decide +kernel
theorem dX10_doMake_117 : decode cX10_doMake 117 = .ok (.invokevirtual 208, 3) := by decide +kernel
theorem dX10_doMake_120 : decode cX10_doMake 120 = .ok (.aload_n 2, 1) := by decide +kernel
theorem dX10_doMake_121 : decode cX10_doMake 121 = .ok (.dup, 1) := by decide +kernel
theorem dX10_doMake_122 : decode cX10_doMake 122 = .ok (.getfield 191, 3) := by decide +kernel
theorem dX10_doMake_125 : decode cX10_doMake 125 = .ok (.iconst 1, 1) := by decide +kernel
theorem dX10_doMake_126 : decode cX10_doMake 126 = .ok (.iadd, 1) := by decide +kernel
theorem dX10_doMake_127 : decode cX10_doMake 127 = .ok (.putfield 191, 3) := by decide +kernel
theorem dX10_doMake_130 : decode cX10_doMake 130 = .ok (.aload_n 2, 1) := by decide +kernel
theorem dX10_doMake_131 : decode cX10_doMake 131 = .ok (.getfield 215, 3) := by decide +kernel
theorem dX10_doMake_134 : decode cX10_doMake 134 = .ok (.iload_n 3, 1) := by decide +kernel
theorem dX10_doMake_135 : decode cX10_doMake 135 = .ok (.iconst 1, 1) := by decide +kernel
theorem dX10_doMake_136 : decode cX10_doMake 136 = .ok (.iastore, 1) := by decide +kernel
theorem dX10_doMake_137 : decode cX10_doMake 137 = .ok (.aload_n 0, 1) := by decide +kernel
theorem dX10_doMake_138 : decode cX10_doMake 138 = .ok (.aload_n 2, 1) := by decide +kernel
theorem dX10_doMake_139 : decode cX10_doMake 139 = .ok (.iload 5, 2) := by decide +kernel
theorem dX10_doMake_141 : decode cX10_doMake 141 = .ok (.invokevirtual 218, 3) := by decide +kernel
theorem dX10_doMake_144 : decode cX10_doMake 144 = .ok (.return_, 1) := by decide +kernel
theorem dX10_doCall_0 : decode cX10_doCall 0 = .ok (.aload_n 1, 1) := by decide +kernel
theorem dX10_doCall_1 : decode cX10_doCall 1 = .ok (.getfield 222, 3) := by decide +kernel
theorem dX10_doCall_4 : decode cX10_doCall 4 = .ok (.iload_n 3, 1) := by decide +kernel
theorem dX10_doCall_5 : decode cX10_doCall 5 = .ok (.iaload, 1) := by decide +kernel
theorem dX10_doCall_6 : decode cX10_doCall 6 = .ok (.istore 4, 2) := by decide +kernel
theorem dX10_doCall_8 : decode cX10_doCall 8 = .ok (.aload_n 1, 1) := by decide +kernel
theorem dX10_doCall_9 : decode cX10_doCall 9 = .ok (.getfield 187, 3) := by decide +kernel
theorem dX10_doCall_12 : decode cX10_doCall 12 = .ok (.iload_n 3, 1) := by decide +kernel
theorem dX10_doCall_13 : decode cX10_doCall 13 = .ok (.aaload, 1) := by decide +kernel
theorem dX10_doCall_14 : decode cX10_doCall 14 = .ok (.astore 5, 2) := by decide +kernel
theorem dX10_doCall_16 : decode cX10_doCall 16 = .ok (.iload 4, 2) := by decide +kernel
theorem dX10_doCall_18 : decode cX10_doCall 18 = .ok (.aload_n 2, 1) := by decide +kernel
theorem dX10_doCall_19 : decode cX10_doCall 19 = .ok (.getfield 191, 3) := by decide +kernel
theorem dX10_doCall_22 : decode cX10_doCall 22 = .ok (.if_icmp .ge 26, 3) := by decide +kernel
theorem dX10_doCall_25 : decode cX10_doCall 25 = .ok (.aload_n 0, 1) := by decide +kernel
theorem dX10_doCall_26 : decode cX10_doCall 26 = .ok (.getfield 9, 3) := by decide +kernel
theorem dX10_doCall_29 : decode cX10_doCall 29 = .ok (.aload_n 2, 1) := by decide +kernel
theorem dX10_doCall_30 : decode cX10_doCall 30 = .ok (.getfield 199, 3) := by decide +kernel
theorem dX10_doCall_33 : decode cX10_doCall 33 = .ok (.iload 4, 2) := by decide +kernel
theorem dX10_doCall_35 : decode cX10_doCall 35 = .ok (.iaload, 1) := by decide +kernel
theorem dX10_doCall_36 : decode cX10_doCall 36 = .ok (.aload_n 1, 1) := by decide +kernel
theorem dX10_doCall_37 : decode cX10_doCall 37 = .ok (.getfield 177, 3) := by decide +kernel
theorem dX10_doCall_40 : decode cX10_doCall 40 = .ok (.iload_n 3, 1) := by decide +kernel
theorem dX10_doCall_41 : decode cX10_doCall 41 = .ok (.iaload, 1) := by decide +kernel
theorem dX10_doCall_42 : decode cX10_doCall 42 = .ok (.invokevirtual 99, 3) := by decide +kernel
theorem dX10_doCall_45 : decode cX10_doCall 45 = .ok (.ifCond .ne 4, 3) := by decide +kernel
theorem dX10_doCall_48 : decode cX10_doCall 48 = .ok (.return_, 1) := by decide +kernel
theorem dX10_doCall_49 : decode cX10_doCall 49 = .ok (.aload_n 0, 1) := by decide +kernel
theorem dX10_doCall_50 : decode cX10_doCall 50 = .ok (.getfield 9, 3) := by decide +kernel
theorem dX10_doCall_53 : decode cX10_doCall 53 = .ok (.getfield 105, 3) := by decide +kernel
theorem dX10_doCall_56 : decode cX10_doCall 56 = .ok (.aload_n 2, 1) := by decide +kernel
theorem dX10_doCall_57 : decode cX10_doCall 57 = .ok (.getfield 199, 3) := by decide +kernel
theorem dX10_doCall_60 : decode cX10_doCall 60 = .ok (.iload 4, 2) := by decide +kernel
theorem dX10_doCall_62 : decode cX10_doCall 62 = .ok (.iaload, 1) := by decide +kernel
theorem dX10_doCall_63 : decode cX10_doCall 63 = .ok (.aaload, 1) := by decide +kernel
theorem dX10_doCall_64 : decode cX10_doCall 64 = .ok (.astore 6, 2) := by decide +kernel
theorem dX10_doCall_66 : decode cX10_doCall 66 = .ok (.aload 6, 2) := by decide +kernel
theorem dX10_doCall_68 : decode cX10_doCall 68 = .ok (.getfield 128, 3) := by decide +kernel
theorem dX10_doCall_71 : decode cX10_doCall 71 = .ok (.aload_n 1, 1) := by decide +kernel
theorem dX10_doCall_72 : decode cX10_doCall 72 = .ok (.getfield 177, 3) := by decide +kernel
theorem dX10_doCall_75 : decode cX10_doCall 75 = .ok (.iload_n 3, 1) := by decide +kernel
theorem dX10_doCall_76 : decode cX10_doCall 76 = .ok (.iaload, 1) := by decide +kernel
theorem dX10_doCall_77 : decode cX10_doCall 77 = .ok (.iaload, 1) := by decide +kernel
theorem dX10_doCall_78 : decode cX10_doCall 78 = .ok (.istore 7, 2) := by decide +kernel
theorem dX10_doCall_80 : decode cX10_doCall 80 = .ok (.aload_n 2, 1) := by decide +kernel
theorem dX10_doCall_81 : decode cX10_doCall 81 = .ok (.getfield 205, 3) := by decide +kernel
theorem dX10_doCall_84 : decode cX10_doCall 84 = .ok (.iload 4, 2) := by decide +kernel
theorem dX10_doCall_86 : decode cX10_doCall 86 = .ok (.aaload, 1) := by decide +kernel
theorem dX10_doCall_87 : decode cX10_doCall 87 = .ok (.astore 8, 2) := by decide +kernel
theorem dX10_doCall_89 : decode cX10_doCall 89 = .ok (.aload 8, 2) := by decide +kernel
theorem dX10_doCall_91 : decode cX10_doCall 91 = .ok (.iconst 0, 1) := by decide +kernel
theorem dX10_doCall_92 : decode cX10_doCall 92 = .ok (.aload_n 2, 1) := by decide +kernel
theorem dX10_doCall_93 : decode cX10_doCall 93 = .ok (.getfield 225, 3) := by decide +kernel
theorem dX10_doCall_96 : decode cX10_doCall 96 = .ok (.iconst 0, 1) := by decide +kernel
theorem dX10_doCall_97 : decode cX10_doCall 97 = .ok (.bipush 24, 2) := by decide +kernel
theorem dX10_doCall_99 : decode cX10_doCall 99 = .ok (.invokestatic 228, 3) := by decide +kernel
theorem dX10_doCall_102 : decode cX10_doCall 102 = .ok (.aload_n 0, 1) := by decide +kernel
theorem dX10_doCall_103 : decode cX10_doCall 103 = .ok (.getfield 18, 3) := by decide +kernel
theorem dX10_doCall_106 : decode cX10_doCall 106 = .ok (.aload_n 0, 1) := by decide +kernel
theorem dX10_doCall_107 : decode cX10_doCall 107 = .ok (.getfield 9, 3) := by decide +kernel
theorem dX10_doCall_110 : decode cX10_doCall 110 = .ok (.aload 6, 2) := by decide +kernel
theorem dX10_doCall_112 : decode cX10_doCall 112 = .ok (.aload 8, 2) := by decide +kernel
theorem dX10_doCall_114 : decode cX10_doCall 114 = .ok (.aload_n 2, 1) := by decide +kernel
theorem dX10_doCall_115 : decode cX10_doCall 115 = .ok (.getfield 225, 3) := by decide +kernel
theorem dX10_doCall_118 : decode cX10_doCall 118 = .ok (.aload 5, 2) := by decide +kernel
theorem dX10_doCall_120 : decode cX10_doCall 120 = .ok (.invokevirtual 234, 3) := by decide +kernel
theorem dX10_doCall_123 : decode cX10_doCall 123 = .ok (.aload_n 0, 1) := by decide +kernel
theorem dX10_doCall_124 : decode cX10_doCall 124 = .ok (.aload_n 2, 1) := by decide +kernel
theorem dX10_doCall_125 : decode cX10_doCall 125 = .ok (.iload 4, 2) := by decide +kernel
theorem dX10_doCall_127 : decode cX10_doCall 127 = .ok (.iload 7, 2) := by decide +kernel
theorem dX10_doCall_129 : decode cX10_doCall 129 = .ok (.invokevirtual 238, 3) := by decide +kernel
theorem dX10_doCall_132 : decode cX10_doCall 132 = .ok (.aload_n 2, 1) := by decide +kernel
theorem dX10_doCall_133 : decode cX10_doCall 133 = .ok (.getfield 78, 3) := by decide +kernel
theorem dX10_doCall_136 : decode cX10_doCall 136 = .ok (.ifCond .eq 4, 3) := by decide +kernel
theorem dX10_doCall_139 : decode cX10_doCall 139 = .ok (.return_, 1) := by decide +kernel
theorem dX10_doCall_140 : decode cX10_doCall 140 = .ok (.aload_n 0, 1) := by decide +kernel
theorem dX10_doCall_141 : decode cX10_doCall 141 = .ok (.getfield 18, 3) := by decide +kernel
theorem dX10_doCall_144 : decode cX10_doCall 144 = .ok (.aload_n 0, 1) := by decide +kernel
theorem dX10_doCall_145 : decode cX10_doCall 145 = .ok (.getfield 9, 3) := by decide +kernel
theorem dX10_doCall_148 : decode cX10_doCall 148 = .ok (.getfield 124, 3) := by decide +kernel
theorem dX10_doCall_151 : decode cX10_doCall 151 = .ok (.iload 7, 2) := by decide +kernel
theorem dX10_doCall_153 : decode cX10_doCall 153 = .ok (.aaload, 1) := by decide +kernel
theorem dX10_doCall_154 : decode cX10_doCall 154 = .ok (.invokevirtual 242, 3) := by decide +kernel
theorem dX10_doCall_157 : decode cX10_doCall 157 = .ok (.aload_n 0, 1) := by decide +kernel
theorem dX10_doCall_158 : decode cX10_doCall 158 = .ok (.getfield 18, 3) := by decide +kernel
theorem dX10_doCall_161 : decode cX10_doCall 161 = .ok (.invokevirtual 246, 3) := by decide +kernel
theorem dX10_doCall_164 : decode cX10_doCall 164 = .ok (.aload_n 0, 1) := by decide +kernel
theorem dX10_doCall_165 : decode cX10_doCall 165 = .ok (.aload_n 2, 1) := by decide +kernel
theorem dX10_doCall_166 : decode cX10_doCall 166 = .ok (.iload_n 3, 1) := by decide +kernel
theorem dX10_doCall_167 : decode cX10_doCall 167 = .ok (.invokevirtual 249, 3) := by decide +kernel
theorem dX10_doCall_170 : decode cX10_doCall 170 = .ok (.aload_n 0, 1) := by decide +kernel
theorem dX10_doCall_171 : decode cX10_doCall 171 = .ok (.getfield 18, 3) := by decide +kernel
theorem dX10_doCall_174 : decode cX10_doCall 174 = .ok (.aload_n 0, 1) := by decide +kernel
theorem dX10_doCall_175 : decode cX10_doCall 175 = .ok (.getfield 9, 3) := by decide +kernel
theorem dX10_doCall_178 : decode cX10_doCall 178 = .ok (.aload 6, 2) := by decide +kernel
theorem dX10_doCall_180 : decode cX10_doCall 180 = .ok (.aload_n 2, 1) := by decide +kernel
theorem dX10_doCall_181 : decode cX10_doCall 181 = .ok (.getfield 225, 3) := by decide +kernel
theorem dX10_doCall_184 : decode cX10_doCall 184 = .ok (.aload_n 2, 1) := by decide +kernel
theorem dX10_doCall_185 : decode cX10_doCall 185 = .ok (.getfield 225, 3) := by decide +kernel
theorem dX10_doCall_188 : decode cX10_doCall 188 = .ok (.aload 5, 2) := by decide +kernel
theorem dX10_doCall_190 : decode cX10_doCall 190 = .ok (.invokevirtual 234, 3) := by decide +kernel
theorem dX10_doCall_193 : decode cX10_doCall 193 = .ok (.aload_n 0, 1) := by decide +kernel
theorem dX10_doCall_194 : decode cX10_doCall 194 = .ok (.aload_n 2, 1) := by decide +kernel
theorem dX10_doCall_195 : decode cX10_doCall 195 = .ok (.iload 4, 2) := by decide +kernel
theorem dX10_doCall_197 : decode cX10_doCall 197 = .ok (.iload 7, 2) := by decide +kernel
theorem dX10_doCall_199 : decode cX10_doCall 199 = .ok (.invokevirtual 252, 3) := by decide +kernel
theorem dX10_doCall_202 : decode cX10_doCall 202 = .ok (.aload_n 0, 1) := by decide +kernel
theorem dX10_doCall_203 : decode cX10_doCall 203 = .ok (.aload_n 2, 1) := by decide +kernel
theorem dX10_doCall_204 : decode cX10_doCall 204 = .ok (.iload 4, 2) := by decide +kernel
theorem dX10_doCall_206 : decode cX10_doCall 206 = .ok (.iload 7, 2) := by decide +kernel
theorem dX10_doCall_208 : decode cX10_doCall 208 = .ok (.invokevirtual 255, 3) := by decide +kernel
theorem dX10_doCall_211 : decode cX10_doCall 211 = .ok (.aload_n 0, 1) := by decide +kernel
theorem dX10_doCall_212 : decode cX10_doCall 212 = .ok (.getfield 18, 3) := by decide +kernel
theorem dX10_doCall_215 : decode cX10_doCall 215 = .ok (.aload_n 0, 1) := by decide +kernel
theorem dX10_doCall_216 : decode cX10_doCall 216 = .ok (.getfield 9, 3) := by decide +kernel
theorem dX10_doCall_219 : decode cX10_doCall 219 = .ok (.aload 6, 2) := by decide +kernel
theorem dX10_doCall_221 : decode cX10_doCall 221 = .ok (.aload 8, 2) := by decide +kernel
theorem dX10_doCall_223 : decode cX10_doCall 223 = .ok (.aload_n 2, 1) := by decide +kernel
theorem dX10_doCall_224 : decode cX10_doCall 224 = .ok (.getfield 225, 3) := by decide +kernel
theorem dX10_doCall_227 : decode cX10_doCall 227 = .ok (.aload 5, 2) := by decide +kernel
theorem dX10_doCall_229 : decode cX10_doCall 229 = .ok (.invokevirtual 234, 3) := by decide +kernel
theorem dX10_doCall_232 : decode cX10_doCall 232 = .ok (.aload_n 0, 1) := by decide +kernel
theorem dX10_doCall_233 : decode cX10_doCall 233 = .ok (.aload_n 2, 1) := by decide +kernel
theorem dX10_doCall_234 : decode cX10_doCall 234 = .ok (.iload 4, 2) := by decide +kernel
theorem dX10_doCall_236 : decode cX10_doCall 236 = .ok (.iload 7, 2) := by decide +kernel
theorem dX10_doCall_238 : decode cX10_doCall 238 = .ok (.invokevirtual 258, 3) := by decide +kernel
theorem dX10_doCall_241 : decode cX10_doCall 241 = .ok (.iconst 0, 1) := by decide +kernel
theorem dX10_doCall_242 : decode cX10_doCall 242 = .ok (.istore 9, 2) := by decide +kernel
theorem dX10_doCall_244 : decode cX10_doCall 244 = .ok (.iload 9, 2) := by decide +kernel
theorem dX10_doCall_246 : decode cX10_doCall 246 = .ok (.aload_n 2, 1) := by decide +kernel
theorem dX10_doCall_247 : decode cX10_doCall 247 = .ok (.getfield 191, 3) := by decide +kernel
theorem dX10_doCall_250 : decode cX10_doCall 250 = .ok (.if_icmp .ge 16, 3) := by decide +kernel
theorem dX10_doCall_253 : decode cX10_doCall 253 = .ok (.aload_n 0, 1) := by decide +kernel
theorem dX10_doCall_254 : decode cX10_doCall 254 = .ok (.aload_n 2, 1) := by decide +kernel
theorem dX10_doCall_255 : decode cX10_doCall 255 = .ok (.iload 9, 2) := by decide +kernel
theorem dX10_doCall_257 : decode cX10_doCall 257 = .ok (.invokevirtual 218, 3) := by decide +kernel
theorem dX10_doCall_260 : decode cX10_doCall 260 = .ok (.iinc 9 1, 3) := by decide +kernel
theorem dX10_doCall_263 : decode cX10_doCall 263 = .ok (.goto (-19), 3) := by decide +kernel
theorem dX10_doCall_266 : decode cX10_doCall 266 = .ok (.aload_n 0, 1) := by decide +kernel
theorem dX10_doCall_267 : decode cX10_doCall 267 = .ok (.aload_n 2, 1) := by decide +kernel
theorem dX10_doCall_268 : decode cX10_doCall 268 = .ok (.iload 4, 2) := by decide +kernel
theorem dX10_doCall_270 : decode cX10_doCall 270 = .ok (.aload_n 0, 1) := by decide +kernel
theorem dX10_doCall_271 : decode cX10_doCall 271 = .ok (.getfield 9, 3) := by decide +kernel
theorem dX10_doCall_274 : decode cX10_doCall 274 = .ok (.getfield 124, 3) := by decide +kernel
theorem dX10_doCall_277 : decode cX10_doCall 277 = .ok (.iload 7, 2) := by decide +kernel
theorem dX10_doCall_279 : decode cX10_doCall 279 = .ok (.aaload, 1) := by decide +kernel
theorem dX10_doCall_280 : decode cX10_doCall 280 = .ok (.aload 5, 2) := by decide +kernel
theorem dX10_doCall_282 : decode cX10_doCall 282 = .ok (.invokevirtual 261, 3) := by decide +kernel
theorem dX10_doCall_285 : decode cX10_doCall 285 = .ok (.return_, 1) := by decide +kernel
theorem dX10_noteCall_0 : decode cX10_noteCall 0 = .ok (.aload_n 1, 1) := by decide +kernel
theorem dX10_noteCall_1 : decode cX10_noteCall 1 = .ok (.aload_n 0, 1) := by decide +kernel
theorem dX10_noteCall_2 : decode cX10_noteCall 2 = .ok (.getfield 18, 3) := by decide +kernel
theorem dX10_noteCall_5 : decode cX10_noteCall 5 = .ok (.getfield 265, 3) := by decide +kernel
theorem dX10_noteCall_8 : decode cX10_noteCall 8 = .ok (.putfield 268, 3) := by decide +kernel
theorem dX10_noteCall_11 : decode cX10_noteCall 11 = .ok (.aload_n 1, 1) := by decide +kernel
theorem dX10_noteCall_12 : decode cX10_noteCall 12 = .ok (.aload_n 0, 1) := by decide +kernel
theorem dX10_noteCall_13 : decode cX10_noteCall 13 = .ok (.getfield 18, 3) := by decide +kernel
theorem dX10_noteCall_16 : decode cX10_noteCall 16 = .ok (.getfield 269, 3) := by decide +kernel
theorem dX10_noteCall_19 : decode cX10_noteCall 19 = .ok (.putfield 272, 3) := by decide +kernel
theorem dX10_noteCall_22 : decode cX10_noteCall 22 = .ok (.aload_n 1, 1) := by decide +kernel
theorem dX10_noteCall_23 : decode cX10_noteCall 23 = .ok (.getfield 215, 3) := by decide +kernel
theorem dX10_noteCall_26 : decode cX10_noteCall 26 = .ok (.iload_n 2, 1) := by decide +kernel
theorem dX10_noteCall_27 : decode cX10_noteCall 27 = .ok (.aload_n 0, 1) := by decide +kernel
theorem dX10_noteCall_28 : decode cX10_noteCall 28 = .ok (.getfield 18, 3) := by decide +kernel
theorem dX10_noteCall_31 : decode cX10_noteCall 31 = .ok (.getfield 265, 3) := by decide +kernel
theorem dX10_noteCall_34 : decode cX10_noteCall 34 = .ok (.iconst 1, 1) := by decide +kernel
theorem dX10_noteCall_35 : decode cX10_noteCall 35 = .ok (.if_icmp .ne 7, 3) := by decide +kernel
theorem dX10_noteCall_38 : decode cX10_noteCall 38 = .ok (.iconst 1, 1) := by decide +kernel
theorem dX10_noteCall_39 : decode cX10_noteCall 39 = .ok (.goto 4, 3) := by decide +kernel
theorem dX10_noteCall_42 : decode cX10_noteCall 42 = .ok (.iconst 2, 1) := by decide +kernel
theorem dX10_noteCall_43 : decode cX10_noteCall 43 = .ok (.iastore, 1) := by decide +kernel
theorem dX10_noteCall_44 : decode cX10_noteCall 44 = .ok (.aload_n 1, 1) := by decide +kernel
theorem dX10_noteCall_45 : decode cX10_noteCall 45 = .ok (.getfield 273, 3) := by decide +kernel
theorem dX10_noteCall_48 : decode cX10_noteCall 48 = .ok (.iload_n 2, 1) := by decide +kernel
theorem dX10_noteCall_49 : decode cX10_noteCall 49 = .ok (.aload_n 0, 1) := by decide +kernel
theorem dX10_noteCall_50 : decode cX10_noteCall 50 = .ok (.getfield 18, 3) := by decide +kernel
theorem dX10_noteCall_53 : decode cX10_noteCall 53 = .ok (.getfield 269, 3) := by decide +kernel
theorem dX10_noteCall_56 : decode cX10_noteCall 56 = .ok (.iastore, 1) := by decide +kernel
theorem dX10_noteCall_57 : decode cX10_noteCall 57 = .ok (.aload_n 0, 1) := by decide +kernel
theorem dX10_noteCall_58 : decode cX10_noteCall 58 = .ok (.getfield 18, 3) := by decide +kernel
theorem dX10_noteCall_61 : decode cX10_noteCall 61 = .ok (.getfield 265, 3) := by decide +kernel
theorem dX10_noteCall_64 : decode cX10_noteCall 64 = .ok (.iconst 2, 1) := by decide +kernel
theorem dX10_noteCall_65 : decode cX10_noteCall 65 = .ok (.if_icmp .ne 17, 3) := by decide +kernel
theorem dX10_noteCall_68 : decode cX10_noteCall 68 = .ok (.aload_n 1, 1) := by decide +kernel
theorem dX10_noteCall_69 : decode cX10_noteCall 69 = .ok (.aload_n 0, 1) := by decide +kernel
theorem dX10_noteCall_70 : decode cX10_noteCall 70 = .ok (.getfield 18, 3) := by decide +kernel
theorem dX10_noteCall_73 : decode cX10_noteCall 73 = .ok (.getfield 276, 3) := by decide +kernel
theorem dX10_noteCall_76 : decode cX10_noteCall 76 = .ok (.putfield 280, 3) := by decide +kernel
theorem dX10_noteCall_79 : decode cX10_noteCall 79 = .ok (.goto 20, 3) := by decide +kernel
theorem dX10_noteCall_82 : decode cX10_noteCall 82 = .ok (.aload_n 0, 1) := by decide +kernel
theorem dX10_noteCall_83 : decode cX10_noteCall 83 = .ok (.getfield 18, 3) := by decide +kernel
theorem dX10_noteCall_86 : decode cX10_noteCall 86 = .ok (.getfield 265, 3) := by decide +kernel
theorem dX10_noteCall_89 : decode cX10_noteCall 89 = .ok (.iconst 1, 1) := by decide +kernel
theorem dX10_noteCall_90 : decode cX10_noteCall 90 = .ok (.if_icmp .eq 9, 3) := by decide +kernel
theorem dX10_noteCall_93 : decode cX10_noteCall 93 = .ok (.aload_n 1, 1) := by decide +kernel
theorem dX10_noteCall_94 : decode cX10_noteCall 94 = .ok (.bipush 8, 2) := by decide +kernel
theorem dX10_noteCall_96 : decode cX10_noteCall 96 = .ok (.putfield 78, 3) := by decide +kernel
theorem dX10_noteCall_99 : decode cX10_noteCall 99 = .ok (.return_, 1) := by decide +kernel
theorem dX10_holds_0 : decode cX10_holds 0 = .ok (.aload_n 0, 1) := by decide +kernel
theorem dX10_holds_1 : decode cX10_holds 1 = .ok (.getfield 18, 3) := by decide +kernel
theorem dX10_holds_4 : decode cX10_holds 4 = .ok (.aload_n 0, 1) := by decide +kernel
theorem dX10_holds_5 : decode cX10_holds 5 = .ok (.getfield 9, 3) := by decide +kernel
theorem dX10_holds_8 : decode cX10_holds 8 = .ok (.getfield 283, 3) := by decide +kernel
theorem dX10_holds_11 : decode cX10_holds 11 = .ok (.iload_n 2, 1) := by decide +kernel
theorem dX10_holds_12 : decode cX10_holds 12 = .ok (.iaload, 1) := by decide +kernel
theorem dX10_holds_13 : decode cX10_holds 13 = .ok (.aload_n 1, 1) := by decide +kernel
theorem dX10_holds_14 : decode cX10_holds 14 = .ok (.getfield 272, 3) := by decide +kernel
theorem dX10_holds_17 : decode cX10_holds 17 = .ok (.invokevirtual 286, 3) := by decide +kernel
theorem dX10_holds_20 : decode cX10_holds 20 = .ok (.aload_n 0, 1) := by decide +kernel
theorem dX10_holds_21 : decode cX10_holds 21 = .ok (.getfield 18, 3) := by decide +kernel
theorem dX10_holds_24 : decode cX10_holds 24 = .ok (.invokevirtual 246, 3) := by decide +kernel
theorem dX10_holds_27 : decode cX10_holds 27 = .ok (.aload_n 0, 1) := by decide +kernel
theorem dX10_holds_28 : decode cX10_holds 28 = .ok (.getfield 18, 3) := by decide +kernel
theorem dX10_holds_31 : decode cX10_holds 31 = .ok (.getfield 265, 3) := by decide +kernel
theorem dX10_holds_34 : decode cX10_holds 34 = .ok (.iconst 1, 1) := by decide +kernel
theorem dX10_holds_35 : decode cX10_holds 35 = .ok (.if_icmp .ne 19, 3) := by decide +kernel
theorem dX10_holds_38 : decode cX10_holds 38 = .ok (.aload_n 0, 1) := by decide +kernel
theorem dX10_holds_39 : decode cX10_holds 39 = .ok (.getfield 18, 3) := by decide +kernel
theorem dX10_holds_42 : decode cX10_holds 42 = .ok (.getfield 269, 3) := by decide +kernel
theorem dX10_holds_45 : decode cX10_holds 45 = .ok (.ifCond .eq 7, 3) := by decide +kernel
theorem dX10_holds_48 : decode cX10_holds 48 = .ok (.iconst 1, 1) := by decide +kernel
theorem dX10_holds_49 : decode cX10_holds 49 = .ok (.goto 4, 3) := by decide +kernel
theorem dX10_holds_52 : decode cX10_holds 52 = .ok (.iconst 0, 1) := by decide +kernel
theorem dX10_holds_53 : decode cX10_holds 53 = .ok (.ireturn, 1) := by decide +kernel
theorem dX10_holds_54 : decode cX10_holds 54 = .ok (.aload_n 0, 1) := by decide +kernel
theorem dX10_holds_55 : decode cX10_holds 55 = .ok (.getfield 18, 3) := by decide +kernel
theorem dX10_holds_58 : decode cX10_holds 58 = .ok (.getfield 265, 3) := by decide +kernel
theorem dX10_holds_61 : decode cX10_holds 61 = .ok (.iconst 2, 1) := by decide +kernel
theorem dX10_holds_62 : decode cX10_holds 62 = .ok (.if_icmp .ne 14, 3) := by decide +kernel
theorem dX10_holds_65 : decode cX10_holds 65 = .ok (.aload_n 1, 1) := by decide +kernel
theorem dX10_holds_66 : decode cX10_holds 66 = .ok (.aload_n 0, 1) := by decide +kernel
theorem dX10_holds_67 : decode cX10_holds 67 = .ok (.getfield 18, 3) := by decide +kernel
theorem dX10_holds_70 : decode cX10_holds 70 = .ok (.getfield 276, 3) := by decide +kernel
theorem dX10_holds_73 : decode cX10_holds 73 = .ok (.putfield 280, 3) := by decide +kernel
theorem dX10_holds_76 : decode cX10_holds 76 = .ok (.aload_n 1, 1) := by decide +kernel
theorem dX10_holds_77 : decode cX10_holds 77 = .ok (.aload_n 0, 1) := by decide +kernel
theorem dX10_holds_78 : decode cX10_holds 78 = .ok (.getfield 18, 3) := by decide +kernel
theorem dX10_holds_81 : decode cX10_holds 81 = .ok (.getfield 265, 3) := by decide +kernel
theorem dX10_holds_84 : decode cX10_holds 84 = .ok (.iconst 4, 1) := by decide +kernel
theorem dX10_holds_85 : decode cX10_holds 85 = .ok (.if_icmp .ne 7, 3) := by decide +kernel
theorem dX10_holds_88 : decode cX10_holds 88 = .ok (.iconst 5, 1) := by decide +kernel
theorem dX10_holds_89 : decode cX10_holds 89 = .ok (.goto 5, 3) := by decide +kernel
theorem dX10_holds_92 : decode cX10_holds 92 = .ok (.bipush 7, 2) := by decide +kernel
theorem dX10_holds_94 : decode cX10_holds 94 = .ok (.iload_n 2, 1) := by decide +kernel
theorem dX10_holds_95 : decode cX10_holds 95 = .ok (.iload_n 3, 1) := by decide +kernel
theorem dX10_holds_96 : decode cX10_holds 96 = .ok (.invokevirtual 289, 3) := by decide +kernel
theorem dX10_holds_99 : decode cX10_holds 99 = .ok (.iconst 0, 1) := by decide +kernel
theorem dX10_holds_100 : decode cX10_holds 100 = .ok (.ireturn, 1) := by decide +kernel
theorem dX10_upwards_0 : decode cX10_upwards 0 = .ok (.iload_n 1, 1) := by decide +kernel
theorem dX10_upwards_1 : decode cX10_upwards 1 = .ok (.ifCond .lt 29, 3) := by decide +kernel
theorem dX10_upwards_4 : decode cX10_upwards 4 = .ok (.iload_n 1, 1) := by decide +kernel
theorem dX10_upwards_5 : decode cX10_upwards 5 = .ok (.aload_n 0, 1) := by decide +kernel
theorem dX10_upwards_6 : decode cX10_upwards 6 = .ok (.getfield 9, 3) := by decide +kernel
theorem dX10_upwards_9 : decode cX10_upwards 9 = .ok (.getfield 293, 3) := by decide +kernel
theorem dX10_upwards_12 : decode cX10_upwards 12 = .ok (.if_icmp .ge 18, 3) := by decide +kernel
theorem dX10_upwards_15 : decode cX10_upwards 15 = .ok (.aload_n 0, 1) := by decide +kernel
theorem dX10_upwards_16 : decode cX10_upwards 16 = .ok (.getfield 9, 3) := by decide +kernel
theorem dX10_upwards_19 : decode cX10_upwards 19 = .ok (.getfield 124, 3) := by decide +kernel
theorem dX10_upwards_22 : decode cX10_upwards 22 = .ok (.iload_n 1, 1) := by decide +kernel
theorem dX10_upwards_23 : decode cX10_upwards 23 = .ok (.aaload, 1) := by decide +kernel
theorem dX10_upwards_24 : decode cX10_upwards 24 = .ok (.getfield 296, 3) := by decide +kernel
theorem dX10_upwards_27 : decode cX10_upwards 27 = .ok (.goto 4, 3) := by decide +kernel
theorem dX10_upwards_30 : decode cX10_upwards 30 = .ok (.iconst (-1), 1) := by decide +kernel
theorem dX10_upwards_31 : decode cX10_upwards 31 = .ok (.ireturn, 1) := by decide +kernel
theorem dX10_lastMark_0 : decode cX10_lastMark 0 = .ok (.aload_n 0, 1) := by decide +kernel
theorem dX10_lastMark_1 : decode cX10_lastMark 1 = .ok (.getfield 9, 3) := by decide +kernel
theorem dX10_lastMark_4 : decode cX10_lastMark 4 = .ok (.getfield 124, 3) := by decide +kernel
theorem dX10_lastMark_7 : decode cX10_lastMark 7 = .ok (.iload_n 1, 1) := by decide +kernel
theorem dX10_lastMark_8 : decode cX10_lastMark 8 = .ok (.aaload, 1) := by decide +kernel
theorem dX10_lastMark_9 : decode cX10_lastMark 9 = .ok (.getfield 299, 3) := by decide +kernel
theorem dX10_lastMark_12 : decode cX10_lastMark 12 = .ok (.aload_n 0, 1) := by decide +kernel
theorem dX10_lastMark_13 : decode cX10_lastMark 13 = .ok (.getfield 9, 3) := by decide +kernel
theorem dX10_lastMark_16 : decode cX10_lastMark 16 = .ok (.getfield 124, 3) := by decide +kernel
theorem dX10_lastMark_19 : decode cX10_lastMark 19 = .ok (.iload_n 1, 1) := by decide +kernel
theorem dX10_lastMark_20 : decode cX10_lastMark 20 = .ok (.aaload, 1) := by decide +kernel
theorem dX10_lastMark_21 : decode cX10_lastMark 21 = .ok (.getfield 302, 3) := by decide +kernel
theorem dX10_lastMark_24 : decode cX10_lastMark 24 = .ok (.iadd, 1) := by decide +kernel
theorem dX10_lastMark_25 : decode cX10_lastMark 25 = .ok (.aload_n 0, 1) := by decide +kernel
theorem dX10_lastMark_26 : decode cX10_lastMark 26 = .ok (.getfield 9, 3) := by decide +kernel
theorem dX10_lastMark_29 : decode cX10_lastMark 29 = .ok (.getfield 305, 3) := by decide +kernel
theorem dX10_lastMark_32 : decode cX10_lastMark 32 = .ok (.invokestatic 306, 3) := by decide +kernel
theorem dX10_lastMark_35 : decode cX10_lastMark 35 = .ok (.iconst 1, 1) := by decide +kernel
theorem dX10_lastMark_36 : decode cX10_lastMark 36 = .ok (.isub, 1) := by decide +kernel
theorem dX10_lastMark_37 : decode cX10_lastMark 37 = .ok (.ireturn, 1) := by decide +kernel
theorem dX10_askNeeds_0 : decode cX10_askNeeds 0 = .ok (.iload_n 3, 1) := by decide +kernel
theorem dX10_askNeeds_1 : decode cX10_askNeeds 1 = .ok (.istore 4, 2) := by decide +kernel
theorem dX10_askNeeds_3 : decode cX10_askNeeds 3 = .ok (.iconst 0, 1) := by decide +kernel
theorem dX10_askNeeds_4 : decode cX10_askNeeds 4 = .ok (.istore 5, 2) := by decide +kernel
theorem dX10_askNeeds_6 : decode cX10_askNeeds 6 = .ok (.iload 5, 2) := by decide +kernel
theorem dX10_askNeeds_8 : decode cX10_askNeeds 8 = .ok (.bipush 8, 2) := by decide +kernel
theorem dX10_askNeeds_10 : decode cX10_askNeeds 10 = .ok (.if_icmp .ge 112, 3) := by decide +kernel
theorem dX10_askNeeds_13 : decode cX10_askNeeds 13 = .ok (.iload 4, 2) := by decide +kernel
theorem dX10_askNeeds_15 : decode cX10_askNeeds 15 = .ok (.iconst (-1), 1) := by decide +kernel
theorem dX10_askNeeds_16 : decode cX10_askNeeds 16 = .ok (.if_icmp .eq 106, 3) := by decide +kernel
theorem dX10_askNeeds_19 : decode cX10_askNeeds 19 = .ok (.iconst 1, 1) := by decide +kernel
theorem dX10_askNeeds_20 : decode cX10_askNeeds 20 = .ok (.istore 6, 2) := by decide +kernel
theorem dX10_askNeeds_22 : decode cX10_askNeeds 22 = .ok (.aload_n 0, 1) := by decide +kernel
theorem dX10_askNeeds_23 : decode cX10_askNeeds 23 = .ok (.iload 4, 2) := by decide +kernel
theorem dX10_askNeeds_25 : decode cX10_askNeeds 25 = .ok (.invokevirtual 309, 3) := by decide +kernel
theorem dX10_askNeeds_28 : decode cX10_askNeeds 28 = .ok (.istore 7, 2) := by decide +kernel
theorem dX10_askNeeds_30 : decode cX10_askNeeds 30 = .ok (.aload_n 0, 1) := by decide +kernel
theorem dX10_askNeeds_31 : decode cX10_askNeeds 31 = .ok (.getfield 9, 3) := by decide +kernel
theorem dX10_askNeeds_34 : decode cX10_askNeeds 34 = .ok (.getfield 124, 3) := by decide +kernel
theorem dX10_askNeeds_37 : decode cX10_askNeeds 37 = .ok (.iload 4, 2) := by decide +kernel
theorem dX10_askNeeds_39 : decode cX10_askNeeds 39 = .ok (.aaload, 1) := by decide +kernel
theorem dX10_askNeeds_40 : decode cX10_askNeeds 40 = .ok (.getfield 299, 3) := by decide +kernel
theorem dX10_askNeeds_43 : decode cX10_askNeeds 43 = .ok (.istore 8, 2) := by decide +kernel
theorem dX10_askNeeds_45 : decode cX10_askNeeds 45 = .ok (.iload 8, 2) := by decide +kernel
theorem dX10_askNeeds_47 : decode cX10_askNeeds 47 = .ok (.iload 7, 2) := by decide +kernel
theorem dX10_askNeeds_49 : decode cX10_askNeeds 49 = .ok (.if_icmp .gt 46, 3) := by decide +kernel
theorem dX10_askNeeds_52 : decode cX10_askNeeds 52 = .ok (.iload 6, 2) := by decide +kernel
theorem dX10_askNeeds_54 : decode cX10_askNeeds 54 = .ok (.ifCond .eq 41, 3) := by decide +kernel
theorem dX10_askNeeds_57 : decode cX10_askNeeds 57 = .ok (.aload_n 0, 1) := by decide +kernel
theorem dX10_askNeeds_58 : decode cX10_askNeeds 58 = .ok (.getfield 9, 3) := by decide +kernel
theorem dX10_askNeeds_61 : decode cX10_askNeeds 61 = .ok (.getfield 312, 3) := by decide +kernel
theorem dX10_askNeeds_64 : decode cX10_askNeeds 64 = .ok (.iload 8, 2) := by decide +kernel
theorem dX10_askNeeds_66 : decode cX10_askNeeds 66 = .ok (.iaload, 1) := by decide +kernel
theorem dX10_askNeeds_67 : decode cX10_askNeeds 67 = .ok (.iconst 1, 1) := by decide +kernel
theorem dX10_askNeeds_68 : decode cX10_askNeeds 68 = .ok (.if_icmp .ne 14, 3) := by decide +kernel
theorem dX10_askNeeds_71 : decode cX10_askNeeds 71 = .ok (.aload_n 0, 1) := by decide +kernel
theorem dX10_askNeeds_72 : decode cX10_askNeeds 72 = .ok (.aload_n 1, 1) := by decide +kernel
theorem dX10_askNeeds_73 : decode cX10_askNeeds 73 = .ok (.iload 8, 2) := by decide +kernel
theorem dX10_askNeeds_75 : decode cX10_askNeeds 75 = .ok (.iload_n 2, 1) := by decide +kernel
theorem dX10_askNeeds_76 : decode cX10_askNeeds 76 = .ok (.invokevirtual 315, 3) := by decide +kernel
theorem dX10_askNeeds_79 : decode cX10_askNeeds 79 = .ok (.ifCond .eq 7, 3) := by decide +kernel
theorem dX10_askNeeds_82 : decode cX10_askNeeds 82 = .ok (.iconst 1, 1) := by decide +kernel
theorem dX10_askNeeds_83 : decode cX10_askNeeds 83 = .ok (.goto 4, 3) := by decide +kernel
theorem dX10_askNeeds_86 : decode cX10_askNeeds 86 = .ok (.iconst 0, 1) := by decide +kernel
theorem dX10_askNeeds_87 : decode cX10_askNeeds 87 = .ok (.istore 6, 2) := by decide +kernel
theorem dX10_askNeeds_89 : decode cX10_askNeeds 89 = .ok (.iinc 8 1, 3) := by decide +kernel
theorem dX10_askNeeds_92 : decode cX10_askNeeds 92 = .ok (.goto (-47), 3) := by decide +kernel
theorem dX10_askNeeds_95 : decode cX10_askNeeds 95 = .ok (.iload 6, 2) := by decide +kernel
theorem dX10_askNeeds_97 : decode cX10_askNeeds 97 = .ok (.ifCond .ne 10, 3) := by decide +kernel
theorem dX10_askNeeds_100 : decode cX10_askNeeds 100 = .ok (.aload_n 1, 1) := by decide +kernel
theorem dX10_askNeeds_101 : decode cX10_askNeeds 101 = .ok (.getfield 78, 3) := by decide +kernel
theorem dX10_askNeeds_104 : decode cX10_askNeeds 104 = .ok (.ifCond .eq 4, 3) := by decide +kernel
theorem dX10_askNeeds_107 : decode cX10_askNeeds 107 = .ok (.return_, 1) := by decide +kernel
theorem dX10_askNeeds_108 : decode cX10_askNeeds 108 = .ok (.aload_n 0, 1) := by decide +kernel
theorem dX10_askNeeds_109 : decode cX10_askNeeds 109 = .ok (.iload 4, 2) := by decide +kernel
theorem dX10_askNeeds_111 : decode cX10_askNeeds 111 = .ok (.invokevirtual 319, 3) := by decide +kernel
theorem dX10_askNeeds_114 : decode cX10_askNeeds 114 = .ok (.istore 4, 2) := by decide +kernel
theorem dX10_askNeeds_116 : decode cX10_askNeeds 116 = .ok (.iinc 5 1, 3) := by decide +kernel
theorem dX10_askNeeds_119 : decode cX10_askNeeds 119 = .ok (.goto (-113), 3) := by decide +kernel
theorem dX10_askNeeds_122 : decode cX10_askNeeds 122 = .ok (.aload_n 1, 1) := by decide +kernel
theorem dX10_askNeeds_123 : decode cX10_askNeeds 123 = .ok (.iconst (-1), 1) := by decide +kernel
theorem dX10_askNeeds_124 : decode cX10_askNeeds 124 = .ok (.putfield 78, 3) := by decide +kernel
theorem dX10_askNeeds_127 : decode cX10_askNeeds 127 = .ok (.return_, 1) := by decide +kernel
theorem dX10_askThrows_0 : decode cX10_askThrows 0 = .ok (.aload_n 1, 1) := by decide +kernel
theorem dX10_askThrows_1 : decode cX10_askThrows 1 = .ok (.getfield 78, 3) := by decide +kernel
theorem dX10_askThrows_4 : decode cX10_askThrows 4 = .ok (.ifCond .ne 11, 3) := by decide +kernel
theorem dX10_askThrows_7 : decode cX10_askThrows 7 = .ok (.aload_n 1, 1) := by decide +kernel
theorem dX10_askThrows_8 : decode cX10_askThrows 8 = .ok (.getfield 268, 3) := by decide +kernel
theorem dX10_askThrows_11 : decode cX10_askThrows 11 = .ok (.iconst 2, 1) := by decide +kernel
theorem dX10_askThrows_12 : decode cX10_askThrows 12 = .ok (.if_icmp .eq 4, 3) := by decide +kernel
theorem dX10_askThrows_15 : decode cX10_askThrows 15 = .ok (.return_, 1) := by decide +kernel
theorem dX10_askThrows_16 : decode cX10_askThrows 16 = .ok (.aload_n 1, 1) := by decide +kernel
theorem dX10_askThrows_17 : decode cX10_askThrows 17 = .ok (.getfield 280, 3) := by decide +kernel
theorem dX10_askThrows_20 : decode cX10_askThrows 20 = .ok (.lstore 4, 2) := by decide +kernel
theorem dX10_askThrows_22 : decode cX10_askThrows 22 = .ok (.iload_n 3, 1) := by decide +kernel
theorem dX10_askThrows_23 : decode cX10_askThrows 23 = .ok (.istore 6, 2) := by decide +kernel
theorem dX10_askThrows_25 : decode cX10_askThrows 25 = .ok (.iconst 0, 1) := by decide +kernel
theorem dX10_askThrows_26 : decode cX10_askThrows 26 = .ok (.istore 7, 2) := by decide +kernel
theorem dX10_askThrows_28 : decode cX10_askThrows 28 = .ok (.iload 7, 2) := by decide +kernel
theorem dX10_askThrows_30 : decode cX10_askThrows 30 = .ok (.bipush 8, 2) := by decide +kernel
theorem dX10_askThrows_32 : decode cX10_askThrows 32 = .ok (.if_icmp .ge 134, 3) := by decide +kernel
theorem dX10_askThrows_35 : decode cX10_askThrows 35 = .ok (.iload 6, 2) := by decide +kernel
theorem dX10_askThrows_37 : decode cX10_askThrows 37 = .ok (.iconst (-1), 1) := by decide +kernel
theorem dX10_askThrows_38 : decode cX10_askThrows 38 = .ok (.if_icmp .eq 128, 3) := by decide +kernel
theorem dX10_askThrows_41 : decode cX10_askThrows 41 = .ok (.aload_n 0, 1) := by decide +kernel
theorem dX10_askThrows_42 : decode cX10_askThrows 42 = .ok (.iload 6, 2) := by decide +kernel
theorem dX10_askThrows_44 : decode cX10_askThrows 44 = .ok (.invokevirtual 309, 3) := by decide +kernel
theorem dX10_askThrows_47 : decode cX10_askThrows 47 = .ok (.istore 8, 2) := by decide +kernel
theorem dX10_askThrows_49 : decode cX10_askThrows 49 = .ok (.aload_n 0, 1) := by decide +kernel
theorem dX10_askThrows_50 : decode cX10_askThrows 50 = .ok (.getfield 9, 3) := by decide +kernel
theorem dX10_askThrows_53 : decode cX10_askThrows 53 = .ok (.getfield 124, 3) := by decide +kernel
theorem dX10_askThrows_56 : decode cX10_askThrows 56 = .ok (.iload 6, 2) := by decide +kernel
theorem dX10_askThrows_58 : decode cX10_askThrows 58 = .ok (.aaload, 1) := by decide +kernel
theorem dX10_askThrows_59 : decode cX10_askThrows 59 = .ok (.getfield 299, 3) := by decide +kernel
theorem dX10_askThrows_62 : decode cX10_askThrows 62 = .ok (.istore 9, 2) := by decide +kernel
theorem dX10_askThrows_64 : decode cX10_askThrows 64 = .ok (.iload 9, 2) := by decide +kernel
theorem dX10_askThrows_66 : decode cX10_askThrows 66 = .ok (.iload 8, 2) := by decide +kernel
theorem dX10_askThrows_68 : decode cX10_askThrows 68 = .ok (.if_icmp .gt 84, 3) := by decide +kernel
theorem dX10_askThrows_71 : decode cX10_askThrows 71 = .ok (.aload_n 0, 1) := by decide +kernel
theorem dX10_askThrows_72 : decode cX10_askThrows 72 = .ok (.getfield 9, 3) := by decide +kernel
theorem dX10_askThrows_75 : decode cX10_askThrows 75 = .ok (.getfield 312, 3) := by decide +kernel
theorem dX10_askThrows_78 : decode cX10_askThrows 78 = .ok (.iload 9, 2) := by decide +kernel
theorem dX10_askThrows_80 : decode cX10_askThrows 80 = .ok (.iaload, 1) := by decide +kernel
theorem dX10_askThrows_81 : decode cX10_askThrows 81 = .ok (.iconst 4, 1) := by decide +kernel
theorem dX10_askThrows_82 : decode cX10_askThrows 82 = .ok (.if_icmp .ne 23, 3) := by decide +kernel
theorem dX10_askThrows_85 : decode cX10_askThrows 85 = .ok (.aload_n 0, 1) := by decide +kernel
theorem dX10_askThrows_86 : decode cX10_askThrows 86 = .ok (.getfield 9, 3) := by decide +kernel
theorem dX10_askThrows_89 : decode cX10_askThrows 89 = .ok (.getfield 322, 3) := by decide +kernel
theorem dX10_askThrows_92 : decode cX10_askThrows 92 = .ok (.iload 9, 2) := by decide +kernel
theorem dX10_askThrows_94 : decode cX10_askThrows 94 = .ok (.laload, 1) := by decide +kernel
theorem dX10_askThrows_95 : decode cX10_askThrows 95 = .ok (.lload 4, 2) := by decide +kernel
theorem dX10_askThrows_97 : decode cX10_askThrows 97 = .ok (.lcmp, 1) := by decide +kernel
theorem dX10_askThrows_98 : decode cX10_askThrows 98 = .ok (.ifCond .ne 7, 3) := by decide +kernel
theorem dX10_askThrows_101 : decode cX10_askThrows 101 = .ok (.iconst 1, 1) := by decide +kernel
theorem dX10_askThrows_102 : decode cX10_askThrows 102 = .ok (.goto 4, 3) := by decide +kernel
theorem dX10_askThrows_105 : decode cX10_askThrows 105 = .ok (.iconst 0, 1) := by decide +kernel
theorem dX10_askThrows_106 : decode cX10_askThrows 106 = .ok (.istore 10, 2) := by decide +kernel
theorem dX10_askThrows_108 : decode cX10_askThrows 108 = .ok (.iload 10, 2) := by decide +kernel
theorem dX10_askThrows_110 : decode cX10_askThrows 110 = .ok (.ifCond .eq 36, 3) := by decide +kernel
theorem dX10_askThrows_113 : decode cX10_askThrows 113 = .ok (.aload_n 0, 1) := by decide +kernel
theorem dX10_askThrows_114 : decode cX10_askThrows 114 = .ok (.getfield 9, 3) := by decide +kernel
theorem dX10_askThrows_117 : decode cX10_askThrows 117 = .ok (.getfield 283, 3) := by decide +kernel
theorem dX10_askThrows_120 : decode cX10_askThrows 120 = .ok (.iload 9, 2) := by decide +kernel
theorem dX10_askThrows_122 : decode cX10_askThrows 122 = .ok (.iaload, 1) := by decide +kernel
theorem dX10_askThrows_123 : decode cX10_askThrows 123 = .ok (.iconst (-1), 1) := by decide +kernel
theorem dX10_askThrows_124 : decode cX10_askThrows 124 = .ok (.if_icmp .eq 21, 3) := by decide +kernel
theorem dX10_askThrows_127 : decode cX10_askThrows 127 = .ok (.aload_n 0, 1) := by decide +kernel
theorem dX10_askThrows_128 : decode cX10_askThrows 128 = .ok (.aload_n 1, 1) := by decide +kernel
theorem dX10_askThrows_129 : decode cX10_askThrows 129 = .ok (.iload 9, 2) := by decide +kernel
theorem dX10_askThrows_131 : decode cX10_askThrows 131 = .ok (.iload_n 2, 1) := by decide +kernel
theorem dX10_askThrows_132 : decode cX10_askThrows 132 = .ok (.invokevirtual 315, 3) := by decide +kernel
theorem dX10_askThrows_135 : decode cX10_askThrows 135 = .ok (.ifCond .ne 10, 3) := by decide +kernel
theorem dX10_askThrows_138 : decode cX10_askThrows 138 = .ok (.aload_n 1, 1) := by decide +kernel
theorem dX10_askThrows_139 : decode cX10_askThrows 139 = .ok (.getfield 78, 3) := by decide +kernel
theorem dX10_askThrows_142 : decode cX10_askThrows 142 = .ok (.ifCond .eq 4, 3) := by decide +kernel
theorem dX10_askThrows_145 : decode cX10_askThrows 145 = .ok (.return_, 1) := by decide +kernel
theorem dX10_askThrows_146 : decode cX10_askThrows 146 = .ok (.iinc 9 1, 3) := by decide +kernel
theorem dX10_askThrows_149 : decode cX10_askThrows 149 = .ok (.goto (-85), 3) := by decide +kernel
theorem dX10_askThrows_152 : decode cX10_askThrows 152 = .ok (.aload_n 0, 1) := by decide +kernel
theorem dX10_askThrows_153 : decode cX10_askThrows 153 = .ok (.iload 6, 2) := by decide +kernel
theorem dX10_askThrows_155 : decode cX10_askThrows 155 = .ok (.invokevirtual 319, 3) := by decide +kernel
theorem dX10_askThrows_158 : decode cX10_askThrows 158 = .ok (.istore 6, 2) := by decide +kernel
theorem dX10_askThrows_160 : decode cX10_askThrows 160 = .ok (.iinc 7 1, 3) := by decide +kernel
theorem dX10_askThrows_163 : decode cX10_askThrows 163 = .ok (.goto (-135), 3) := by decide +kernel
theorem dX10_askThrows_166 : decode cX10_askThrows 166 = .ok (.aload_n 1, 1) := by decide +kernel
theorem dX10_askThrows_167 : decode cX10_askThrows 167 = .ok (.iconst 3, 1) := by decide +kernel
theorem dX10_askThrows_168 : decode cX10_askThrows 168 = .ok (.putfield 78, 3) := by decide +kernel
theorem dX10_askThrows_171 : decode cX10_askThrows 171 = .ok (.return_, 1) := by decide +kernel
theorem dX10_findChanges_0 : decode cX10_findChanges 0 = .ok (.aload_n 1, 1) := by decide +kernel
theorem dX10_findChanges_1 : decode cX10_findChanges 1 = .ok (.getfield 78, 3) := by decide +kernel
theorem dX10_findChanges_4 : decode cX10_findChanges 4 = .ok (.ifCond .eq 4, 3) := by decide +kernel
theorem dX10_findChanges_7 : decode cX10_findChanges 7 = .ok (.return_, 1) := by decide +kernel
theorem dX10_findChanges_8 : decode cX10_findChanges 8 = .ok (.aload_n 0, 1) := by decide +kernel
theorem dX10_findChanges_9 : decode cX10_findChanges 9 = .ok (.getfield 9, 3) := by decide +kernel
theorem dX10_findChanges_12 : decode cX10_findChanges 12 = .ok (.getfield 105, 3) := by decide +kernel
theorem dX10_findChanges_15 : decode cX10_findChanges 15 = .ok (.aload_n 1, 1) := by decide +kernel
theorem dX10_findChanges_16 : decode cX10_findChanges 16 = .ok (.getfield 199, 3) := by decide +kernel
theorem dX10_findChanges_19 : decode cX10_findChanges 19 = .ok (.iload_n 2, 1) := by decide +kernel
theorem dX10_findChanges_20 : decode cX10_findChanges 20 = .ok (.iaload, 1) := by decide +kernel
theorem dX10_findChanges_21 : decode cX10_findChanges 21 = .ok (.aaload, 1) := by decide +kernel
theorem dX10_findChanges_22 : decode cX10_findChanges 22 = .ok (.astore 4, 2) := by decide +kernel
theorem dX10_findChanges_24 : decode cX10_findChanges 24 = .ok (.aload_n 1, 1) := by decide +kernel
theorem dX10_findChanges_25 : decode cX10_findChanges 25 = .ok (.getfield 205, 3) := by decide +kernel
theorem dX10_findChanges_28 : decode cX10_findChanges 28 = .ok (.iload_n 2, 1) := by decide +kernel
theorem dX10_findChanges_29 : decode cX10_findChanges 29 = .ok (.aaload, 1) := by decide +kernel
theorem dX10_findChanges_30 : decode cX10_findChanges 30 = .ok (.astore 5, 2) := by decide +kernel
theorem dX10_findChanges_32 : decode cX10_findChanges 32 = .ok (.aload 4, 2) := by decide +kernel
theorem dX10_findChanges_34 : decode cX10_findChanges 34 = .ok (.aload_n 1, 1) := by decide +kernel
theorem dX10_findChanges_35 : decode cX10_findChanges 35 = .ok (.getfield 225, 3) := by decide +kernel
theorem dX10_findChanges_38 : decode cX10_findChanges 38 = .ok (.aload 5, 2) := by decide +kernel
theorem dX10_findChanges_40 : decode cX10_findChanges 40 = .ok (.iconst 0, 1) := by decide +kernel
theorem dX10_findChanges_41 : decode cX10_findChanges 41 = .ok (.invokevirtual 326, 3) := by decide +kernel
theorem dX10_findChanges_44 : decode cX10_findChanges 44 = .ok (.istore 6, 2) := by decide +kernel
theorem dX10_findChanges_46 : decode cX10_findChanges 46 = .ok (.iload 6, 2) := by decide +kernel
theorem dX10_findChanges_48 : decode cX10_findChanges 48 = .ok (.iconst (-1), 1) := by decide +kernel
theorem dX10_findChanges_49 : decode cX10_findChanges 49 = .ok (.if_icmp .ne 4, 3) := by decide +kernel
theorem dX10_findChanges_52 : decode cX10_findChanges 52 = .ok (.return_, 1) := by decide +kernel
theorem dX10_findChanges_53 : decode cX10_findChanges 53 = .ok (.aload_n 0, 1) := by decide +kernel
theorem dX10_findChanges_54 : decode cX10_findChanges 54 = .ok (.getfield 9, 3) := by decide +kernel
theorem dX10_findChanges_57 : decode cX10_findChanges 57 = .ok (.getfield 124, 3) := by decide +kernel
theorem dX10_findChanges_60 : decode cX10_findChanges 60 = .ok (.iload_n 3, 1) := by decide +kernel
theorem dX10_findChanges_61 : decode cX10_findChanges 61 = .ok (.aaload, 1) := by decide +kernel
theorem dX10_findChanges_62 : decode cX10_findChanges 62 = .ok (.getfield 330, 3) := by decide +kernel
theorem dX10_findChanges_65 : decode cX10_findChanges 65 = .ok (.ifCond .eq 12, 3) := by decide +kernel
theorem dX10_findChanges_68 : decode cX10_findChanges 68 = .ok (.aload_n 1, 1) := by decide +kernel
theorem dX10_findChanges_69 : decode cX10_findChanges 69 = .ok (.iconst 5, 1) := by decide +kernel
theorem dX10_findChanges_70 : decode cX10_findChanges 70 = .ok (.iload_n 2, 1) := by decide +kernel
theorem dX10_findChanges_71 : decode cX10_findChanges 71 = .ok (.iload 6, 2) := by decide +kernel
theorem dX10_findChanges_73 : decode cX10_findChanges 73 = .ok (.invokevirtual 333, 3) := by decide +kernel
theorem dX10_findChanges_76 : decode cX10_findChanges 76 = .ok (.return_, 1) := by decide +kernel
theorem dX10_findChanges_77 : decode cX10_findChanges 77 = .ok (.aload 4, 2) := by decide +kernel
theorem dX10_findChanges_79 : decode cX10_findChanges 79 = .ok (.aload_n 1, 1) := by decide +kernel
theorem dX10_findChanges_80 : decode cX10_findChanges 80 = .ok (.getfield 225, 3) := by decide +kernel
theorem dX10_findChanges_83 : decode cX10_findChanges 83 = .ok (.aload 5, 2) := by decide +kernel
theorem dX10_findChanges_85 : decode cX10_findChanges 85 = .ok (.aload_n 0, 1) := by decide +kernel
theorem dX10_findChanges_86 : decode cX10_findChanges 86 = .ok (.iload_n 3, 1) := by decide +kernel
theorem dX10_findChanges_87 : decode cX10_findChanges 87 = .ok (.invokevirtual 336, 3) := by decide +kernel
theorem dX10_findChanges_90 : decode cX10_findChanges 90 = .ok (.invokevirtual 326, 3) := by decide +kernel
theorem dX10_findChanges_93 : decode cX10_findChanges 93 = .ok (.istore 6, 2) := by decide +kernel
theorem dX10_findChanges_95 : decode cX10_findChanges 95 = .ok (.iload 6, 2) := by decide +kernel
theorem dX10_findChanges_97 : decode cX10_findChanges 97 = .ok (.iconst (-1), 1) := by decide +kernel
theorem dX10_findChanges_98 : decode cX10_findChanges 98 = .ok (.if_icmp .eq 11, 3) := by decide +kernel
theorem dX10_findChanges_101 : decode cX10_findChanges 101 = .ok (.aload_n 1, 1) := by decide +kernel
theorem dX10_findChanges_102 : decode cX10_findChanges 102 = .ok (.iconst 4, 1) := by decide +kernel
theorem dX10_findChanges_103 : decode cX10_findChanges 103 = .ok (.iload_n 2, 1) := by decide +kernel
theorem dX10_findChanges_104 : decode cX10_findChanges 104 = .ok (.iload 6, 2) := by decide +kernel
theorem dX10_findChanges_106 : decode cX10_findChanges 106 = .ok (.invokevirtual 333, 3) := by decide +kernel
theorem dX10_findChanges_109 : decode cX10_findChanges 109 = .ok (.return_, 1) := by decide +kernel
theorem dX10_fieldsThatMayChange_0 : decode cX10_fieldsThatMayChange 0 = .ok (.iconst (-1), 1) := by decide +kernel
theorem dX10_fieldsThatMayChange_1 : decode cX10_fieldsThatMayChange 1 = .ok (.istore_n 2, 1) := by decide +kernel
theorem dX10_fieldsThatMayChange_2 : decode cX10_fieldsThatMayChange 2 = .ok (.iload_n 1, 1) := by decide +kernel
theorem dX10_fieldsThatMayChange_3 : decode cX10_fieldsThatMayChange 3 = .ok (.istore_n 3, 1) := by decide +kernel
theorem dX10_fieldsThatMayChange_4 : decode cX10_fieldsThatMayChange 4 = .ok (.iconst 0, 1) := by decide +kernel
theorem dX10_fieldsThatMayChange_5 : decode cX10_fieldsThatMayChange 5 = .ok (.istore 4, 2) := by decide +kernel
theorem dX10_fieldsThatMayChange_7 : decode cX10_fieldsThatMayChange 7 = .ok (.iload 4, 2) := by decide +kernel
theorem dX10_fieldsThatMayChange_9 : decode cX10_fieldsThatMayChange 9 = .ok (.bipush 8, 2) := by decide +kernel
theorem dX10_fieldsThatMayChange_11 : decode cX10_fieldsThatMayChange 11 = .ok (.if_icmp .ge 85, 3) := by decide +kernel
theorem dX10_fieldsThatMayChange_14 : decode cX10_fieldsThatMayChange 14 = .ok (.iload_n 3, 1) := by decide +kernel
theorem dX10_fieldsThatMayChange_15 : decode cX10_fieldsThatMayChange 15 = .ok (.iconst (-1), 1) := by decide +kernel
theorem dX10_fieldsThatMayChange_16 : decode cX10_fieldsThatMayChange 16 = .ok (.if_icmp .eq 80, 3) := by decide +kernel
theorem dX10_fieldsThatMayChange_19 : decode cX10_fieldsThatMayChange 19 = .ok (.aload_n 0, 1) := by decide +kernel
theorem dX10_fieldsThatMayChange_20 : decode cX10_fieldsThatMayChange 20 = .ok (.iload_n 3, 1) := by decide +kernel
theorem dX10_fieldsThatMayChange_21 : decode cX10_fieldsThatMayChange 21 = .ok (.invokevirtual 309, 3) := by decide +kernel
theorem dX10_fieldsThatMayChange_24 : decode cX10_fieldsThatMayChange 24 = .ok (.istore 5, 2) := by decide +kernel
theorem dX10_fieldsThatMayChange_26 : decode cX10_fieldsThatMayChange 26 = .ok (.aload_n 0, 1) := by decide +kernel
theorem dX10_fieldsThatMayChange_27 : decode cX10_fieldsThatMayChange 27 = .ok (.getfield 9, 3) := by decide +kernel
theorem dX10_fieldsThatMayChange_30 : decode cX10_fieldsThatMayChange 30 = .ok (.getfield 124, 3) := by decide +kernel
theorem dX10_fieldsThatMayChange_33 : decode cX10_fieldsThatMayChange 33 = .ok (.iload_n 3, 1) := by decide +kernel
theorem dX10_fieldsThatMayChange_34 : decode cX10_fieldsThatMayChange 34 = .ok (.aaload, 1) := by decide +kernel
theorem dX10_fieldsThatMayChange_35 : decode cX10_fieldsThatMayChange 35 = .ok (.getfield 299, 3) := by decide +kernel
theorem dX10_fieldsThatMayChange_38 : decode cX10_fieldsThatMayChange 38 = .ok (.istore 6, 2) := by decide +kernel
theorem dX10_fieldsThatMayChange_40 : decode cX10_fieldsThatMayChange 40 = .ok (.iload 6, 2) := by decide +kernel
theorem dX10_fieldsThatMayChange_42 : decode cX10_fieldsThatMayChange 42 = .ok (.iload 5, 2) := by decide +kernel
theorem dX10_fieldsThatMayChange_44 : decode cX10_fieldsThatMayChange 44 = .ok (.if_icmp .gt 40, 3) := by decide +kernel
theorem dX10_fieldsThatMayChange_47 : decode cX10_fieldsThatMayChange 47 = .ok (.iload_n 2, 1) := by decide +kernel
theorem dX10_fieldsThatMayChange_48 : decode cX10_fieldsThatMayChange 48 = .ok (.aload_n 0, 1) := by decide +kernel
theorem dX10_fieldsThatMayChange_49 : decode cX10_fieldsThatMayChange 49 = .ok (.getfield 9, 3) := by decide +kernel
theorem dX10_fieldsThatMayChange_52 : decode cX10_fieldsThatMayChange 52 = .ok (.getfield 312, 3) := by decide +kernel
theorem dX10_fieldsThatMayChange_55 : decode cX10_fieldsThatMayChange 55 = .ok (.iload 6, 2) := by decide +kernel
theorem dX10_fieldsThatMayChange_57 : decode cX10_fieldsThatMayChange 57 = .ok (.iaload, 1) := by decide +kernel
theorem dX10_fieldsThatMayChange_58 : decode cX10_fieldsThatMayChange 58 = .ok (.iconst 5, 1) := by decide +kernel
theorem dX10_fieldsThatMayChange_59 : decode cX10_fieldsThatMayChange 59 = .ok (.if_icmp .ne 16, 3) := by decide +kernel
theorem dX10_fieldsThatMayChange_62 : decode cX10_fieldsThatMayChange 62 = .ok (.aload_n 0, 1) := by decide +kernel
theorem dX10_fieldsThatMayChange_63 : decode cX10_fieldsThatMayChange 63 = .ok (.getfield 9, 3) := by decide +kernel
theorem dX10_fieldsThatMayChange_66 : decode cX10_fieldsThatMayChange 66 = .ok (.getfield 339, 3) := by decide +kernel
theorem dX10_fieldsThatMayChange_69 : decode cX10_fieldsThatMayChange 69 = .ok (.iload 6, 2) := by decide +kernel
theorem dX10_fieldsThatMayChange_71 : decode cX10_fieldsThatMayChange 71 = .ok (.iaload, 1) := by decide +kernel
theorem dX10_fieldsThatMayChange_72 : decode cX10_fieldsThatMayChange 72 = .ok (.goto 4, 3) := by decide +kernel
theorem dX10_fieldsThatMayChange_75 : decode cX10_fieldsThatMayChange 75 = .ok (.iconst (-1), 1) := by decide +kernel
theorem dX10_fieldsThatMayChange_76 : decode cX10_fieldsThatMayChange 76 = .ok (.iand, 1) := by decide +kernel
theorem dX10_fieldsThatMayChange_77 : decode cX10_fieldsThatMayChange 77 = .ok (.istore_n 2, 1) := by decide +kernel
theorem dX10_fieldsThatMayChange_78 : decode cX10_fieldsThatMayChange 78 = .ok (.iinc 6 1, 3) := by decide +kernel
theorem dX10_fieldsThatMayChange_81 : decode cX10_fieldsThatMayChange 81 = .ok (.goto (-41), 3) := by decide +kernel
theorem dX10_fieldsThatMayChange_84 : decode cX10_fieldsThatMayChange 84 = .ok (.aload_n 0, 1) := by decide +kernel
theorem dX10_fieldsThatMayChange_85 : decode cX10_fieldsThatMayChange 85 = .ok (.iload_n 3, 1) := by decide +kernel
theorem dX10_fieldsThatMayChange_86 : decode cX10_fieldsThatMayChange 86 = .ok (.invokevirtual 319, 3) := by decide +kernel
theorem dX10_fieldsThatMayChange_89 : decode cX10_fieldsThatMayChange 89 = .ok (.istore_n 3, 1) := by decide +kernel
theorem dX10_fieldsThatMayChange_90 : decode cX10_fieldsThatMayChange 90 = .ok (.iinc 4 1, 3) := by decide +kernel
theorem dX10_fieldsThatMayChange_93 : decode cX10_fieldsThatMayChange 93 = .ok (.goto (-86), 3) := by decide +kernel
theorem dX10_fieldsThatMayChange_96 : decode cX10_fieldsThatMayChange 96 = .ok (.iload_n 2, 1) := by decide +kernel
theorem dX10_fieldsThatMayChange_97 : decode cX10_fieldsThatMayChange 97 = .ok (.ireturn, 1) := by decide +kernel
theorem dX10_askGives_0 : decode cX10_askGives 0 = .ok (.aload_n 1, 1) := by decide +kernel
theorem dX10_askGives_1 : decode cX10_askGives 1 = .ok (.getfield 78, 3) := by decide +kernel
theorem dX10_askGives_4 : decode cX10_askGives 4 = .ok (.ifCond .ne 11, 3) := by decide +kernel
theorem dX10_askGives_7 : decode cX10_askGives 7 = .ok (.aload_n 1, 1) := by decide +kernel
theorem dX10_askGives_8 : decode cX10_askGives 8 = .ok (.getfield 268, 3) := by decide +kernel
theorem dX10_askGives_11 : decode cX10_askGives 11 = .ok (.iconst 1, 1) := by decide +kernel
theorem dX10_askGives_12 : decode cX10_askGives 12 = .ok (.if_icmp .eq 4, 3) := by decide +kernel
theorem dX10_askGives_15 : decode cX10_askGives 15 = .ok (.return_, 1) := by decide +kernel
theorem dX10_askGives_16 : decode cX10_askGives 16 = .ok (.iload_n 3, 1) := by decide +kernel
theorem dX10_askGives_17 : decode cX10_askGives 17 = .ok (.istore 4, 2) := by decide +kernel
theorem dX10_askGives_19 : decode cX10_askGives 19 = .ok (.iconst 0, 1) := by decide +kernel
theorem dX10_askGives_20 : decode cX10_askGives 20 = .ok (.istore 5, 2) := by decide +kernel
theorem dX10_askGives_22 : decode cX10_askGives 22 = .ok (.iload 5, 2) := by decide +kernel
theorem dX10_askGives_24 : decode cX10_askGives 24 = .ok (.bipush 8, 2) := by decide +kernel
theorem dX10_askGives_26 : decode cX10_askGives 26 = .ok (.if_icmp .ge 107, 3) := by decide +kernel
theorem dX10_askGives_29 : decode cX10_askGives 29 = .ok (.iload 4, 2) := by decide +kernel
theorem dX10_askGives_31 : decode cX10_askGives 31 = .ok (.iconst (-1), 1) := by decide +kernel
theorem dX10_askGives_32 : decode cX10_askGives 32 = .ok (.if_icmp .eq 101, 3) := by decide +kernel
theorem dX10_askGives_35 : decode cX10_askGives 35 = .ok (.aload_n 0, 1) := by decide +kernel
theorem dX10_askGives_36 : decode cX10_askGives 36 = .ok (.iload 4, 2) := by decide +kernel
theorem dX10_askGives_38 : decode cX10_askGives 38 = .ok (.invokevirtual 309, 3) := by decide +kernel
theorem dX10_askGives_41 : decode cX10_askGives 41 = .ok (.istore 6, 2) := by decide +kernel
theorem dX10_askGives_43 : decode cX10_askGives 43 = .ok (.aload_n 0, 1) := by decide +kernel
theorem dX10_askGives_44 : decode cX10_askGives 44 = .ok (.getfield 9, 3) := by decide +kernel
theorem dX10_askGives_47 : decode cX10_askGives 47 = .ok (.getfield 124, 3) := by decide +kernel
theorem dX10_askGives_50 : decode cX10_askGives 50 = .ok (.iload 4, 2) := by decide +kernel
theorem dX10_askGives_52 : decode cX10_askGives 52 = .ok (.aaload, 1) := by decide +kernel
theorem dX10_askGives_53 : decode cX10_askGives 53 = .ok (.getfield 299, 3) := by decide +kernel
theorem dX10_askGives_56 : decode cX10_askGives 56 = .ok (.istore 7, 2) := by decide +kernel
theorem dX10_askGives_58 : decode cX10_askGives 58 = .ok (.iload 7, 2) := by decide +kernel
theorem dX10_askGives_60 : decode cX10_askGives 60 = .ok (.iload 6, 2) := by decide +kernel
theorem dX10_askGives_62 : decode cX10_askGives 62 = .ok (.if_icmp .gt 57, 3) := by decide +kernel
theorem dX10_askGives_65 : decode cX10_askGives 65 = .ok (.aload_n 0, 1) := by decide +kernel
theorem dX10_askGives_66 : decode cX10_askGives 66 = .ok (.getfield 9, 3) := by decide +kernel
theorem dX10_askGives_69 : decode cX10_askGives 69 = .ok (.getfield 312, 3) := by decide +kernel
theorem dX10_askGives_72 : decode cX10_askGives 72 = .ok (.iload 7, 2) := by decide +kernel
theorem dX10_askGives_74 : decode cX10_askGives 74 = .ok (.iaload, 1) := by decide +kernel
theorem dX10_askGives_75 : decode cX10_askGives 75 = .ok (.iconst 2, 1) := by decide +kernel
theorem dX10_askGives_76 : decode cX10_askGives 76 = .ok (.if_icmp .ne 37, 3) := by decide +kernel
theorem dX10_askGives_79 : decode cX10_askGives 79 = .ok (.aload_n 0, 1) := by decide +kernel
theorem dX10_askGives_80 : decode cX10_askGives 80 = .ok (.aload_n 1, 1) := by decide +kernel
theorem dX10_askGives_81 : decode cX10_askGives 81 = .ok (.iload 7, 2) := by decide +kernel
theorem dX10_askGives_83 : decode cX10_askGives 83 = .ok (.iload_n 2, 1) := by decide +kernel
theorem dX10_askGives_84 : decode cX10_askGives 84 = .ok (.invokevirtual 315, 3) := by decide +kernel
theorem dX10_askGives_87 : decode cX10_askGives 87 = .ok (.ifCond .ne 26, 3) := by decide +kernel
theorem dX10_askGives_90 : decode cX10_askGives 90 = .ok (.aload_n 1, 1) := by decide +kernel
theorem dX10_askGives_91 : decode cX10_askGives 91 = .ok (.aload_n 1, 1) := by decide +kernel
theorem dX10_askGives_92 : decode cX10_askGives 92 = .ok (.getfield 78, 3) := by decide +kernel
theorem dX10_askGives_95 : decode cX10_askGives 95 = .ok (.ifCond .ne 7, 3) := by decide +kernel
theorem dX10_askGives_98 : decode cX10_askGives 98 = .ok (.iconst 1, 1) := by decide +kernel
theorem dX10_askGives_99 : decode cX10_askGives 99 = .ok (.goto 7, 3) := by decide +kernel
theorem dX10_askGives_102 : decode cX10_askGives 102 = .ok (.aload_n 1, 1) := by decide +kernel
theorem dX10_askGives_103 : decode cX10_askGives 103 = .ok (.getfield 78, 3) := by decide +kernel
theorem dX10_askGives_106 : decode cX10_askGives 106 = .ok (.iload 7, 2) := by decide +kernel
theorem dX10_askGives_108 : decode cX10_askGives 108 = .ok (.iload_n 2, 1) := by decide +kernel
theorem dX10_askGives_109 : decode cX10_askGives 109 = .ok (.invokevirtual 289, 3) := by decide +kernel
theorem dX10_askGives_112 : decode cX10_askGives 112 = .ok (.return_, 1) := by decide +kernel
theorem dX10_askGives_113 : decode cX10_askGives 113 = .ok (.iinc 7 1, 3) := by decide +kernel
theorem dX10_askGives_116 : decode cX10_askGives 116 = .ok (.goto (-58), 3) := by decide +kernel
theorem dX10_askGives_119 : decode cX10_askGives 119 = .ok (.aload_n 0, 1) := by decide +kernel
theorem dX10_askGives_120 : decode cX10_askGives 120 = .ok (.iload 4, 2) := by decide +kernel
theorem dX10_askGives_122 : decode cX10_askGives 122 = .ok (.invokevirtual 319, 3) := by decide +kernel
theorem dX10_askGives_125 : decode cX10_askGives 125 = .ok (.istore 4, 2) := by decide +kernel
theorem dX10_askGives_127 : decode cX10_askGives 127 = .ok (.iinc 5 1, 3) := by decide +kernel
theorem dX10_askGives_130 : decode cX10_askGives 130 = .ok (.goto (-108), 3) := by decide +kernel
theorem dX10_askGives_133 : decode cX10_askGives 133 = .ok (.return_, 1) := by decide +kernel
theorem dX10_askKept_0 : decode cX10_askKept 0 = .ok (.aload_n 1, 1) := by decide +kernel
theorem dX10_askKept_1 : decode cX10_askKept 1 = .ok (.getfield 78, 3) := by decide +kernel
theorem dX10_askKept_4 : decode cX10_askKept 4 = .ok (.ifCond .eq 4, 3) := by decide +kernel
theorem dX10_askKept_7 : decode cX10_askKept 7 = .ok (.return_, 1) := by decide +kernel
theorem dX10_askKept_8 : decode cX10_askKept 8 = .ok (.aload_n 1, 1) := by decide +kernel
theorem dX10_askKept_9 : decode cX10_askKept 9 = .ok (.getfield 199, 3) := by decide +kernel
theorem dX10_askKept_12 : decode cX10_askKept 12 = .ok (.iload_n 2, 1) := by decide +kernel
theorem dX10_askKept_13 : decode cX10_askKept 13 = .ok (.iaload, 1) := by decide +kernel
theorem dX10_askKept_14 : decode cX10_askKept 14 = .ok (.istore_n 3, 1) := by decide +kernel
theorem dX10_askKept_15 : decode cX10_askKept 15 = .ok (.aload_n 1, 1) := by decide +kernel
theorem dX10_askKept_16 : decode cX10_askKept 16 = .ok (.getfield 205, 3) := by decide +kernel
theorem dX10_askKept_19 : decode cX10_askKept 19 = .ok (.iload_n 2, 1) := by decide +kernel
theorem dX10_askKept_20 : decode cX10_askKept 20 = .ok (.aaload, 1) := by decide +kernel
theorem dX10_askKept_21 : decode cX10_askKept 21 = .ok (.astore 4, 2) := by decide +kernel
theorem dX10_askKept_23 : decode cX10_askKept 23 = .ok (.aload_n 0, 1) := by decide +kernel
theorem dX10_askKept_24 : decode cX10_askKept 24 = .ok (.getfield 18, 3) := by decide +kernel
theorem dX10_askKept_27 : decode cX10_askKept 27 = .ok (.aload_n 0, 1) := by decide +kernel
theorem dX10_askKept_28 : decode cX10_askKept 28 = .ok (.getfield 9, 3) := by decide +kernel
theorem dX10_askKept_31 : decode cX10_askKept 31 = .ok (.aload_n 0, 1) := by decide +kernel
theorem dX10_askKept_32 : decode cX10_askKept 32 = .ok (.getfield 9, 3) := by decide +kernel
theorem dX10_askKept_35 : decode cX10_askKept 35 = .ok (.getfield 105, 3) := by decide +kernel
theorem dX10_askKept_38 : decode cX10_askKept 38 = .ok (.iload_n 3, 1) := by decide +kernel
theorem dX10_askKept_39 : decode cX10_askKept 39 = .ok (.aaload, 1) := by decide +kernel
theorem dX10_askKept_40 : decode cX10_askKept 40 = .ok (.aload 4, 2) := by decide +kernel
theorem dX10_askKept_42 : decode cX10_askKept 42 = .ok (.aload 4, 2) := by decide +kernel
theorem dX10_askKept_44 : decode cX10_askKept 44 = .ok (.aload 4, 2) := by decide +kernel
theorem dX10_askKept_46 : decode cX10_askKept 46 = .ok (.invokevirtual 234, 3) := by decide +kernel
theorem dX10_askKept_49 : decode cX10_askKept 49 = .ok (.iconst 0, 1) := by decide +kernel
theorem dX10_askKept_50 : decode cX10_askKept 50 = .ok (.istore 5, 2) := by decide +kernel
theorem dX10_askKept_52 : decode cX10_askKept 52 = .ok (.iload 5, 2) := by decide +kernel
theorem dX10_askKept_54 : decode cX10_askKept 54 = .ok (.bipush 8, 2) := by decide +kernel
theorem dX10_askKept_56 : decode cX10_askKept 56 = .ok (.if_icmp .ge 112, 3) := by decide +kernel
theorem dX10_askKept_59 : decode cX10_askKept 59 = .ok (.aload_n 0, 1) := by decide +kernel
theorem dX10_askKept_60 : decode cX10_askKept 60 = .ok (.getfield 9, 3) := by decide +kernel
theorem dX10_askKept_63 : decode cX10_askKept 63 = .ok (.iload_n 3, 1) := by decide +kernel
theorem dX10_askKept_64 : decode cX10_askKept 64 = .ok (.invokevirtual 192, 3) := by decide +kernel
theorem dX10_askKept_67 : decode cX10_askKept 67 = .ok (.ifCond .eq 101, 3) := by decide +kernel
theorem dX10_askKept_70 : decode cX10_askKept 70 = .ok (.aload_n 0, 1) := by decide +kernel
theorem dX10_askKept_71 : decode cX10_askKept 71 = .ok (.getfield 9, 3) := by decide +kernel
theorem dX10_askKept_74 : decode cX10_askKept 74 = .ok (.getfield 105, 3) := by decide +kernel
theorem dX10_askKept_77 : decode cX10_askKept 77 = .ok (.iload_n 3, 1) := by decide +kernel
theorem dX10_askKept_78 : decode cX10_askKept 78 = .ok (.aaload, 1) := by decide +kernel
theorem dX10_askKept_79 : decode cX10_askKept 79 = .ok (.astore 6, 2) := by decide +kernel
theorem dX10_askKept_81 : decode cX10_askKept 81 = .ok (.aload 6, 2) := by decide +kernel
theorem dX10_askKept_83 : decode cX10_askKept 83 = .ok (.getfield 342, 3) := by decide +kernel
theorem dX10_askKept_86 : decode cX10_askKept 86 = .ok (.istore 7, 2) := by decide +kernel
theorem dX10_askKept_88 : decode cX10_askKept 88 = .ok (.iload 7, 2) := by decide +kernel
theorem dX10_askKept_90 : decode cX10_askKept 90 = .ok (.aload 6, 2) := by decide +kernel
theorem dX10_askKept_92 : decode cX10_askKept 92 = .ok (.getfield 342, 3) := by decide +kernel
theorem dX10_askKept_95 : decode cX10_askKept 95 = .ok (.aload 6, 2) := by decide +kernel
theorem dX10_askKept_97 : decode cX10_askKept 97 = .ok (.getfield 345, 3) := by decide +kernel
theorem dX10_askKept_100 : decode cX10_askKept 100 = .ok (.iadd, 1) := by decide +kernel
theorem dX10_askKept_101 : decode cX10_askKept 101 = .ok (.if_icmp .ge 55, 3) := by decide +kernel
theorem dX10_askKept_104 : decode cX10_askKept 104 = .ok (.iload 7, 2) := by decide +kernel
theorem dX10_askKept_106 : decode cX10_askKept 106 = .ok (.aload_n 0, 1) := by decide +kernel
theorem dX10_askKept_107 : decode cX10_askKept 107 = .ok (.getfield 9, 3) := by decide +kernel
theorem dX10_askKept_110 : decode cX10_askKept 110 = .ok (.getfield 305, 3) := by decide +kernel
theorem dX10_askKept_113 : decode cX10_askKept 113 = .ok (.if_icmp .ge 43, 3) := by decide +kernel
theorem dX10_askKept_116 : decode cX10_askKept 116 = .ok (.aload_n 0, 1) := by decide +kernel
theorem dX10_askKept_117 : decode cX10_askKept 117 = .ok (.aload_n 1, 1) := by decide +kernel
theorem dX10_askKept_118 : decode cX10_askKept 118 = .ok (.iload 7, 2) := by decide +kernel
theorem dX10_askKept_120 : decode cX10_askKept 120 = .ok (.iload_n 2, 1) := by decide +kernel
theorem dX10_askKept_121 : decode cX10_askKept 121 = .ok (.invokevirtual 315, 3) := by decide +kernel
theorem dX10_askKept_124 : decode cX10_askKept 124 = .ok (.ifCond .ne 26, 3) := by decide +kernel
theorem dX10_askKept_127 : decode cX10_askKept 127 = .ok (.aload_n 1, 1) := by decide +kernel
theorem dX10_askKept_128 : decode cX10_askKept 128 = .ok (.aload_n 1, 1) := by decide +kernel
theorem dX10_askKept_129 : decode cX10_askKept 129 = .ok (.getfield 78, 3) := by decide +kernel
theorem dX10_askKept_132 : decode cX10_askKept 132 = .ok (.ifCond .ne 7, 3) := by decide +kernel
theorem dX10_askKept_135 : decode cX10_askKept 135 = .ok (.iconst 2, 1) := by decide +kernel
theorem dX10_askKept_136 : decode cX10_askKept 136 = .ok (.goto 7, 3) := by decide +kernel
theorem dX10_askKept_139 : decode cX10_askKept 139 = .ok (.aload_n 1, 1) := by decide +kernel
theorem dX10_askKept_140 : decode cX10_askKept 140 = .ok (.getfield 78, 3) := by decide +kernel
theorem dX10_askKept_143 : decode cX10_askKept 143 = .ok (.iload 7, 2) := by decide +kernel
theorem dX10_askKept_145 : decode cX10_askKept 145 = .ok (.iload_n 2, 1) := by decide +kernel
theorem dX10_askKept_146 : decode cX10_askKept 146 = .ok (.invokevirtual 289, 3) := by decide +kernel
theorem dX10_askKept_149 : decode cX10_askKept 149 = .ok (.return_, 1) := by decide +kernel
theorem dX10_askKept_150 : decode cX10_askKept 150 = .ok (.iinc 7 1, 3) := by decide +kernel
theorem dX10_askKept_153 : decode cX10_askKept 153 = .ok (.goto (-65), 3) := by decide +kernel
theorem dX10_askKept_156 : decode cX10_askKept 156 = .ok (.aload 6, 2) := by decide +kernel
theorem dX10_askKept_158 : decode cX10_askKept 158 = .ok (.getfield 348, 3) := by decide +kernel
theorem dX10_askKept_161 : decode cX10_askKept 161 = .ok (.istore_n 3, 1) := by decide +kernel
theorem dX10_askKept_162 : decode cX10_askKept 162 = .ok (.iinc 5 1, 3) := by decide +kernel
theorem dX10_askKept_165 : decode cX10_askKept 165 = .ok (.goto (-113), 3) := by decide +kernel
theorem dX10_askKept_168 : decode cX10_askKept 168 = .ok (.return_, 1) := by decide +kernel
theorem dX10_askModel_0 : decode cX10_askModel 0 = .ok (.aload_n 1, 1) := by decide +kernel
theorem dX10_askModel_1 : decode cX10_askModel 1 = .ok (.getfield 202, 3) := by decide +kernel
theorem dX10_askModel_4 : decode cX10_askModel 4 = .ok (.iload_n 2, 1) := by decide +kernel
theorem dX10_askModel_5 : decode cX10_askModel 5 = .ok (.iaload, 1) := by decide +kernel
theorem dX10_askModel_6 : decode cX10_askModel 6 = .ok (.istore 5, 2) := by decide +kernel
theorem dX10_askModel_8 : decode cX10_askModel 8 = .ok (.aload_n 1, 1) := by decide +kernel
theorem dX10_askModel_9 : decode cX10_askModel 9 = .ok (.getfield 78, 3) := by decide +kernel
theorem dX10_askModel_12 : decode cX10_askModel 12 = .ok (.ifCond .ne 15, 3) := by decide +kernel
theorem dX10_askModel_15 : decode cX10_askModel 15 = .ok (.aload_n 0, 1) := by decide +kernel
theorem dX10_askModel_16 : decode cX10_askModel 16 = .ok (.getfield 9, 3) := by decide +kernel
theorem dX10_askModel_19 : decode cX10_askModel 19 = .ok (.iload 5, 2) := by decide +kernel
theorem dX10_askModel_21 : decode cX10_askModel 21 = .ok (.invokevirtual 192, 3) := by decide +kernel
theorem dX10_askModel_24 : decode cX10_askModel 24 = .ok (.ifCond .ne 4, 3) := by decide +kernel
theorem dX10_askModel_27 : decode cX10_askModel 27 = .ok (.return_, 1) := by decide +kernel
theorem dX10_askModel_28 : decode cX10_askModel 28 = .ok (.aload_n 0, 1) := by decide +kernel
theorem dX10_askModel_29 : decode cX10_askModel 29 = .ok (.getfield 9, 3) := by decide +kernel
theorem dX10_askModel_32 : decode cX10_askModel 32 = .ok (.getfield 105, 3) := by decide +kernel
theorem dX10_askModel_35 : decode cX10_askModel 35 = .ok (.iload 5, 2) := by decide +kernel
theorem dX10_askModel_37 : decode cX10_askModel 37 = .ok (.aaload, 1) := by decide +kernel
theorem dX10_askModel_38 : decode cX10_askModel 38 = .ok (.astore 6, 2) := by decide +kernel
theorem dX10_askModel_40 : decode cX10_askModel 40 = .ok (.aload_n 0, 1) := by decide +kernel
theorem dX10_askModel_41 : decode cX10_askModel 41 = .ok (.getfield 9, 3) := by decide +kernel
theorem dX10_askModel_44 : decode cX10_askModel 44 = .ok (.aload 6, 2) := by decide +kernel
theorem dX10_askModel_46 : decode cX10_askModel 46 = .ok (.aload_n 3, 1) := by decide +kernel
theorem dX10_askModel_47 : decode cX10_askModel 47 = .ok (.getfield 351, 3) := by decide +kernel
theorem dX10_askModel_50 : decode cX10_askModel 50 = .ok (.invokevirtual 354, 3) := by decide +kernel
theorem dX10_askModel_53 : decode cX10_askModel 53 = .ok (.istore 7, 2) := by decide +kernel
theorem dX10_askModel_55 : decode cX10_askModel 55 = .ok (.iload 7, 2) := by decide +kernel
theorem dX10_askModel_57 : decode cX10_askModel 57 = .ok (.iconst (-1), 1) := by decide +kernel
theorem dX10_askModel_58 : decode cX10_askModel 58 = .ok (.if_icmp .eq 29, 3) := by decide +kernel
theorem dX10_askModel_61 : decode cX10_askModel 61 = .ok (.aload_n 0, 1) := by decide +kernel
theorem dX10_askModel_62 : decode cX10_askModel 62 = .ok (.getfield 9, 3) := by decide +kernel
theorem dX10_askModel_65 : decode cX10_askModel 65 = .ok (.getfield 124, 3) := by decide +kernel
theorem dX10_askModel_68 : decode cX10_askModel 68 = .ok (.aload 6, 2) := by decide +kernel
theorem dX10_askModel_70 : decode cX10_askModel 70 = .ok (.getfield 128, 3) := by decide +kernel
theorem dX10_askModel_73 : decode cX10_askModel 73 = .ok (.iload 7, 2) := by decide +kernel
theorem dX10_askModel_75 : decode cX10_askModel 75 = .ok (.iaload, 1) := by decide +kernel
theorem dX10_askModel_76 : decode cX10_askModel 76 = .ok (.aaload, 1) := by decide +kernel
theorem dX10_askModel_77 : decode cX10_askModel 77 = .ok (.getfield 136, 3) := by decide +kernel
theorem dX10_askModel_80 : decode cX10_askModel 80 = .ok (.aload_n 3, 1) := by decide +kernel
theorem dX10_askModel_81 : decode cX10_askModel 81 = .ok (.getfield 136, 3) := by decide +kernel
theorem dX10_askModel_84 : decode cX10_askModel 84 = .ok (.if_icmp .eq 4, 3) := by decide +kernel
theorem dX10_askModel_87 : decode cX10_askModel 87 = .ok (.return_, 1) := by decide +kernel
theorem dX10_askModel_88 : decode cX10_askModel 88 = .ok (.aload_n 1, 1) := by decide +kernel
theorem dX10_askModel_89 : decode cX10_askModel 89 = .ok (.getfield 280, 3) := by decide +kernel
theorem dX10_askModel_92 : decode cX10_askModel 92 = .ok (.lstore 8, 2) := by decide +kernel
theorem dX10_askModel_94 : decode cX10_askModel 94 = .ok (.aload_n 0, 1) := by decide +kernel
theorem dX10_askModel_95 : decode cX10_askModel 95 = .ok (.getfield 18, 3) := by decide +kernel
theorem dX10_askModel_98 : decode cX10_askModel 98 = .ok (.aload_n 0, 1) := by decide +kernel
theorem dX10_askModel_99 : decode cX10_askModel 99 = .ok (.getfield 9, 3) := by decide +kernel
theorem dX10_askModel_102 : decode cX10_askModel 102 = .ok (.aload 6, 2) := by decide +kernel
theorem dX10_askModel_104 : decode cX10_askModel 104 = .ok (.aload_n 1, 1) := by decide +kernel
theorem dX10_askModel_105 : decode cX10_askModel 105 = .ok (.getfield 212, 3) := by decide +kernel
theorem dX10_askModel_108 : decode cX10_askModel 108 = .ok (.iload_n 2, 1) := by decide +kernel
theorem dX10_askModel_109 : decode cX10_askModel 109 = .ok (.aaload, 1) := by decide +kernel
theorem dX10_askModel_110 : decode cX10_askModel 110 = .ok (.aload_n 1, 1) := by decide +kernel
theorem dX10_askModel_111 : decode cX10_askModel 111 = .ok (.getfield 212, 3) := by decide +kernel
theorem dX10_askModel_114 : decode cX10_askModel 114 = .ok (.iload_n 2, 1) := by decide +kernel
theorem dX10_askModel_115 : decode cX10_askModel 115 = .ok (.aaload, 1) := by decide +kernel
theorem dX10_askModel_116 : decode cX10_askModel 116 = .ok (.aload 4, 2) := by decide +kernel
theorem dX10_askModel_118 : decode cX10_askModel 118 = .ok (.invokevirtual 234, 3) := by decide +kernel
theorem dX10_askModel_121 : decode cX10_askModel 121 = .ok (.aload_n 0, 1) := by decide +kernel
theorem dX10_askModel_122 : decode cX10_askModel 122 = .ok (.getfield 18, 3) := by decide +kernel
theorem dX10_askModel_125 : decode cX10_askModel 125 = .ok (.aload_n 0, 1) := by decide +kernel
theorem dX10_askModel_126 : decode cX10_askModel 126 = .ok (.getfield 9, 3) := by decide +kernel
theorem dX10_askModel_129 : decode cX10_askModel 129 = .ok (.getfield 124, 3) := by decide +kernel
theorem dX10_askModel_132 : decode cX10_askModel 132 = .ok (.aload 6, 2) := by decide +kernel
theorem dX10_askModel_134 : decode cX10_askModel 134 = .ok (.getfield 128, 3) := by decide +kernel
theorem dX10_askModel_137 : decode cX10_askModel 137 = .ok (.iload 7, 2) := by decide +kernel
theorem dX10_askModel_139 : decode cX10_askModel 139 = .ok (.iaload, 1) := by decide +kernel
theorem dX10_askModel_140 : decode cX10_askModel 140 = .ok (.aaload, 1) := by decide +kernel
theorem dX10_askModel_141 : decode cX10_askModel 141 = .ok (.invokevirtual 242, 3) := by decide +kernel
theorem dX10_askModel_144 : decode cX10_askModel 144 = .ok (.aload_n 0, 1) := by decide +kernel
theorem dX10_askModel_145 : decode cX10_askModel 145 = .ok (.getfield 18, 3) := by decide +kernel
theorem dX10_askModel_148 : decode cX10_askModel 148 = .ok (.invokevirtual 246, 3) := by decide +kernel
theorem dX10_askModel_151 : decode cX10_askModel 151 = .ok (.aload_n 0, 1) := by decide +kernel
theorem dX10_askModel_152 : decode cX10_askModel 152 = .ok (.getfield 18, 3) := by decide +kernel
theorem dX10_askModel_155 : decode cX10_askModel 155 = .ok (.getfield 265, 3) := by decide +kernel
theorem dX10_askModel_158 : decode cX10_askModel 158 = .ok (.aload_n 1, 1) := by decide +kernel
theorem dX10_askModel_159 : decode cX10_askModel 159 = .ok (.getfield 268, 3) := by decide +kernel
theorem dX10_askModel_162 : decode cX10_askModel 162 = .ok (.if_icmp .ne 7, 3) := by decide +kernel
theorem dX10_askModel_165 : decode cX10_askModel 165 = .ok (.iconst 1, 1) := by decide +kernel
theorem dX10_askModel_166 : decode cX10_askModel 166 = .ok (.goto 4, 3) := by decide +kernel
theorem dX10_askModel_169 : decode cX10_askModel 169 = .ok (.iconst 0, 1) := by decide +kernel
theorem dX10_askModel_170 : decode cX10_askModel 170 = .ok (.istore 10, 2) := by decide +kernel
theorem dX10_askModel_172 : decode cX10_askModel 172 = .ok (.aload_n 0, 1) := by decide +kernel
theorem dX10_askModel_173 : decode cX10_askModel 173 = .ok (.getfield 18, 3) := by decide +kernel
theorem dX10_askModel_176 : decode cX10_askModel 176 = .ok (.getfield 265, 3) := by decide +kernel
theorem dX10_askModel_179 : decode cX10_askModel 179 = .ok (.iconst 2, 1) := by decide +kernel
theorem dX10_askModel_180 : decode cX10_askModel 180 = .ok (.if_icmp .ne 42, 3) := by decide +kernel
theorem dX10_askModel_183 : decode cX10_askModel 183 = .ok (.aload_n 1, 1) := by decide +kernel
theorem dX10_askModel_184 : decode cX10_askModel 184 = .ok (.aload_n 0, 1) := by decide +kernel
theorem dX10_askModel_185 : decode cX10_askModel 185 = .ok (.getfield 18, 3) := by decide +kernel
theorem dX10_askModel_188 : decode cX10_askModel 188 = .ok (.getfield 276, 3) := by decide +kernel
theorem dX10_askModel_191 : decode cX10_askModel 191 = .ok (.putfield 280, 3) := by decide +kernel
theorem dX10_askModel_194 : decode cX10_askModel 194 = .ok (.iload 10, 2) := by decide +kernel
theorem dX10_askModel_196 : decode cX10_askModel 196 = .ok (.ifCond .eq 20, 3) := by decide +kernel
theorem dX10_askModel_199 : decode cX10_askModel 199 = .ok (.aload_n 0, 1) := by decide +kernel
theorem dX10_askModel_200 : decode cX10_askModel 200 = .ok (.getfield 18, 3) := by decide +kernel
theorem dX10_askModel_203 : decode cX10_askModel 203 = .ok (.getfield 276, 3) := by decide +kernel
theorem dX10_askModel_206 : decode cX10_askModel 206 = .ok (.lload 8, 2) := by decide +kernel
theorem dX10_askModel_208 : decode cX10_askModel 208 = .ok (.lcmp, 1) := by decide +kernel
theorem dX10_askModel_209 : decode cX10_askModel 209 = .ok (.ifCond .ne 7, 3) := by decide +kernel
theorem dX10_askModel_212 : decode cX10_askModel 212 = .ok (.iconst 1, 1) := by decide +kernel
theorem dX10_askModel_213 : decode cX10_askModel 213 = .ok (.goto 4, 3) := by decide +kernel
theorem dX10_askModel_216 : decode cX10_askModel 216 = .ok (.iconst 0, 1) := by decide +kernel
theorem dX10_askModel_217 : decode cX10_askModel 217 = .ok (.istore 10, 2) := by decide +kernel
theorem dX10_askModel_219 : decode cX10_askModel 219 = .ok (.goto 29, 3) := by decide +kernel
theorem dX10_askModel_222 : decode cX10_askModel 222 = .ok (.iload 10, 2) := by decide +kernel
theorem dX10_askModel_224 : decode cX10_askModel 224 = .ok (.ifCond .eq 21, 3) := by decide +kernel
theorem dX10_askModel_227 : decode cX10_askModel 227 = .ok (.aload_n 0, 1) := by decide +kernel
theorem dX10_askModel_228 : decode cX10_askModel 228 = .ok (.getfield 18, 3) := by decide +kernel
theorem dX10_askModel_231 : decode cX10_askModel 231 = .ok (.getfield 269, 3) := by decide +kernel
theorem dX10_askModel_234 : decode cX10_askModel 234 = .ok (.aload_n 1, 1) := by decide +kernel
theorem dX10_askModel_235 : decode cX10_askModel 235 = .ok (.getfield 272, 3) := by decide +kernel
theorem dX10_askModel_238 : decode cX10_askModel 238 = .ok (.if_icmp .ne 7, 3) := by decide +kernel
theorem dX10_askModel_241 : decode cX10_askModel 241 = .ok (.iconst 1, 1) := by decide +kernel
theorem dX10_askModel_242 : decode cX10_askModel 242 = .ok (.goto 4, 3) := by decide +kernel
theorem dX10_askModel_245 : decode cX10_askModel 245 = .ok (.iconst 0, 1) := by decide +kernel
theorem dX10_askModel_246 : decode cX10_askModel 246 = .ok (.istore 10, 2) := by decide +kernel
theorem dX10_askModel_248 : decode cX10_askModel 248 = .ok (.aload_n 1, 1) := by decide +kernel
theorem dX10_askModel_249 : decode cX10_askModel 249 = .ok (.iload 10, 2) := by decide +kernel
theorem dX10_askModel_251 : decode cX10_askModel 251 = .ok (.ifCond .eq 7, 3) := by decide +kernel
theorem dX10_askModel_254 : decode cX10_askModel 254 = .ok (.iconst 0, 1) := by decide +kernel
theorem dX10_askModel_255 : decode cX10_askModel 255 = .ok (.goto 5, 3) := by decide +kernel
theorem dX10_askModel_258 : decode cX10_askModel 258 = .ok (.bipush 6, 2) := by decide +kernel
theorem dX10_askModel_260 : decode cX10_askModel 260 = .ok (.putfield 78, 3) := by decide +kernel
theorem dX10_askModel_263 : decode cX10_askModel 263 = .ok (.return_, 1) := by decide +kernel
theorem dX11_feed_0 : decode cX11_feed 0 = .ok (.aload_n 0, 1) := by decide +kernel
theorem dX11_feed_1 : decode cX11_feed 1 = .ok (.getfield 13, 3) := by decide +kernel
theorem dX11_feed_4 : decode cX11_feed 4 = .ok (.bipush 20, 2) := by decide +kernel
theorem dX11_feed_6 : decode cX11_feed 6 = .ok (.iadd, 1) := by decide +kernel
theorem dX11_feed_7 : decode cX11_feed 7 = .ok (.sipush 4000, 3) := by decide +kernel
theorem dX11_feed_10 : decode cX11_feed 10 = .ok (.if_icmp .le 6, 3) := by decide +kernel
theorem dX11_feed_13 : decode cX11_feed 13 = .ok (.bipush (-3), 2) := by decide +kernel
theorem dX11_feed_15 : decode cX11_feed 15 = .ok (.ireturn, 1) := by decide +kernel
theorem dX11_feed_16 : decode cX11_feed 16 = .ok (.aload_n 0, 1) := by decide +kernel
theorem dX11_feed_17 : decode cX11_feed 17 = .ok (.iload_n 1, 1) := by decide +kernel
theorem dX11_feed_18 : decode cX11_feed 18 = .ok (.invokevirtual 49, 3) := by decide +kernel
theorem dX11_feed_21 : decode cX11_feed 21 = .ok (.aload_n 0, 1) := by decide +kernel
theorem dX11_feed_22 : decode cX11_feed 22 = .ok (.iload_n 2, 1) := by decide +kernel
theorem dX11_feed_23 : decode cX11_feed 23 = .ok (.invokevirtual 49, 3) := by decide +kernel
theorem dX11_feed_26 : decode cX11_feed 26 = .ok (.aload_n 0, 1) := by decide +kernel
theorem dX11_feed_27 : decode cX11_feed 27 = .ok (.iload_n 3, 1) := by decide +kernel
theorem dX11_feed_28 : decode cX11_feed 28 = .ok (.invokevirtual 49, 3) := by decide +kernel
theorem dX11_feed_31 : decode cX11_feed 31 = .ok (.aload_n 0, 1) := by decide +kernel
theorem dX11_feed_32 : decode cX11_feed 32 = .ok (.iload 4, 2) := by decide +kernel
theorem dX11_feed_34 : decode cX11_feed 34 = .ok (.invokevirtual 49, 3) := by decide +kernel
theorem dX11_feed_37 : decode cX11_feed 37 = .ok (.aload_n 0, 1) := by decide +kernel
theorem dX11_feed_38 : decode cX11_feed 38 = .ok (.iload 5, 2) := by decide +kernel
theorem dX11_feed_40 : decode cX11_feed 40 = .ok (.invokevirtual 49, 3) := by decide +kernel
theorem dX11_feed_43 : decode cX11_feed 43 = .ok (.aload_n 0, 1) := by decide +kernel
theorem dX11_feed_44 : decode cX11_feed 44 = .ok (.getfield 13, 3) := by decide +kernel
theorem dX11_feed_47 : decode cX11_feed 47 = .ok (.ireturn, 1) := by decide +kernel
theorem dX11_putBytes_0 : decode cX11_putBytes 0 = .ok (.bipush 24, 2) := by decide +kernel
theorem dX11_putBytes_2 : decode cX11_putBytes 2 = .ok (.istore_n 2, 1) := by decide +kernel
theorem dX11_putBytes_3 : decode cX11_putBytes 3 = .ok (.iload_n 2, 1) := by decide +kernel
theorem dX11_putBytes_4 : decode cX11_putBytes 4 = .ok (.ifCond .lt 42, 3) := by decide +kernel
theorem dX11_putBytes_7 : decode cX11_putBytes 7 = .ok (.aload_n 0, 1) := by decide +kernel
theorem dX11_putBytes_8 : decode cX11_putBytes 8 = .ok (.getfield 13, 3) := by decide +kernel
theorem dX11_putBytes_11 : decode cX11_putBytes 11 = .ok (.sipush 4000, 3) := by decide +kernel
theorem dX11_putBytes_14 : decode cX11_putBytes 14 = .ok (.if_icmp .ge 32, 3) := by decide +kernel
theorem dX11_putBytes_17 : decode cX11_putBytes 17 = .ok (.aload_n 0, 1) := by decide +kernel
theorem dX11_putBytes_18 : decode cX11_putBytes 18 = .ok (.getfield 9, 3) := by decide +kernel
theorem dX11_putBytes_21 : decode cX11_putBytes 21 = .ok (.aload_n 0, 1) := by decide +kernel
theorem dX11_putBytes_22 : decode cX11_putBytes 22 = .ok (.getfield 13, 3) := by decide +kernel
theorem dX11_putBytes_25 : decode cX11_putBytes 25 = .ok (.iload_n 1, 1) := by decide +kernel
theorem dX11_putBytes_26 : decode cX11_putBytes 26 = .ok (.iload_n 2, 1) := by decide +kernel
theorem dX11_putBytes_27 : decode cX11_putBytes 27 = .ok (.iushr, 1) := by decide +kernel
theorem dX11_putBytes_28 : decode cX11_putBytes 28 = .ok (.i2b, 1) := by decide +kernel
theorem dX11_putBytes_29 : decode cX11_putBytes 29 = .ok (.bastore, 1) := by decide +kernel
theorem dX11_putBytes_30 : decode cX11_putBytes 30 = .ok (.aload_n 0, 1) := by decide +kernel
theorem dX11_putBytes_31 : decode cX11_putBytes 31 = .ok (.dup, 1) := by decide +kernel
theorem dX11_putBytes_32 : decode cX11_putBytes 32 = .ok (.getfield 13, 3) := by decide +kernel
theorem dX11_putBytes_35 : decode cX11_putBytes 35 = .ok (.iconst 1, 1) := by decide +kernel
theorem dX11_putBytes_36 : decode cX11_putBytes 36 = .ok (.iadd, 1) := by decide +kernel
theorem dX11_putBytes_37 : decode cX11_putBytes 37 = .ok (.putfield 13, 3) := by decide +kernel
theorem dX11_putBytes_40 : decode cX11_putBytes 40 = .ok (.iinc 2 (-8), 3) := by decide +kernel
theorem dX11_putBytes_43 : decode cX11_putBytes 43 = .ok (.goto (-40), 3) := by decide +kernel
theorem dX11_putBytes_46 : decode cX11_putBytes 46 = .ok (.return_, 1) := by decide +kernel
theorem dX11_end_0 : decode cX11_end 0 = .ok (.iload_n 1, 1) := by decide +kernel
theorem dX11_end_1 : decode cX11_end 1 = .ok (.ifCond .lt 11, 3) := by decide +kernel
theorem dX11_end_4 : decode cX11_end 4 = .ok (.iload_n 1, 1) := by decide +kernel
theorem dX11_end_5 : decode cX11_end 5 = .ok (.aload_n 0, 1) := by decide +kernel
theorem dX11_end_6 : decode cX11_end 6 = .ok (.getfield 13, 3) := by decide +kernel
theorem dX11_end_9 : decode cX11_end 9 = .ok (.if_icmp .le 5, 3) := by decide +kernel
theorem dX11_end_12 : decode cX11_end 12 = .ok (.iconst (-1), 1) := by decide +kernel
theorem dX11_end_13 : decode cX11_end 13 = .ok (.ireturn, 1) := by decide +kernel
theorem dX11_end_14 : decode cX11_end 14 = .ok (.aload_n 0, 1) := by decide +kernel
theorem dX11_end_15 : decode cX11_end 15 = .ok (.iload_n 1, 1) := by decide +kernel
theorem dX11_end_16 : decode cX11_end 16 = .ok (.putfield 13, 3) := by decide +kernel
theorem dX11_end_19 : decode cX11_end 19 = .ok (.iload_n 1, 1) := by decide +kernel
theorem dX11_end_20 : decode cX11_end 20 = .ok (.ireturn, 1) := by decide +kernel
theorem dX11_fault_0 : decode cX11_fault 0 = .ok (.iload_n 1, 1) := by decide +kernel
theorem dX11_fault_1 : decode cX11_fault 1 = .ok (.ifCond .ne 8, 3) := by decide +kernel
theorem dX11_fault_4 : decode cX11_fault 4 = .ok (.aload_n 0, 1) := by decide +kernel
theorem dX11_fault_5 : decode cX11_fault 5 = .ok (.getfield 43, 3) := by decide +kernel
theorem dX11_fault_8 : decode cX11_fault 8 = .ok (.ireturn, 1) := by decide +kernel
theorem dX11_fault_9 : decode cX11_fault 9 = .ok (.iload_n 1, 1) := by decide +kernel
theorem dX11_fault_10 : decode cX11_fault 10 = .ok (.iconst 1, 1) := by decide +kernel
theorem dX11_fault_11 : decode cX11_fault 11 = .ok (.if_icmp .ne 10, 3) := by decide +kernel
theorem dX11_fault_14 : decode cX11_fault 14 = .ok (.aload_n 0, 1) := by decide +kernel
theorem dX11_fault_15 : decode cX11_fault 15 = .ok (.getfield 46, 3) := by decide +kernel
theorem dX11_fault_18 : decode cX11_fault 18 = .ok (.goto 4, 3) := by decide +kernel
theorem dX11_fault_21 : decode cX11_fault 21 = .ok (.iconst (-1), 1) := by decide +kernel
theorem dX11_fault_22 : decode cX11_fault 22 = .ok (.ireturn, 1) := by decide +kernel
theorem dX11_about_0 : decode cX11_about 0 = .ok (.aload_n 0, 1) := by decide +kernel
theorem dX11_about_1 : decode cX11_about 1 = .ok (.getfield 27, 3) := by decide +kernel
theorem dX11_about_4 : decode cX11_about 4 = .ok (.iload_n 1, 1) := by decide +kernel
theorem dX11_about_5 : decode cX11_about 5 = .ok (.invokevirtual 78, 3) := by decide +kernel
theorem dX11_about_8 : decode cX11_about 8 = .ok (.ifCond .ne 5, 3) := by decide +kernel
theorem dX11_about_11 : decode cX11_about 11 = .ok (.iconst (-1), 1) := by decide +kernel
theorem dX11_about_12 : decode cX11_about 12 = .ok (.ireturn, 1) := by decide +kernel
theorem dX11_about_13 : decode cX11_about 13 = .ok (.aload_n 0, 1) := by decide +kernel
theorem dX11_about_14 : decode cX11_about 14 = .ok (.getfield 27, 3) := by decide +kernel
theorem dX11_about_17 : decode cX11_about 17 = .ok (.getfield 82, 3) := by decide +kernel
theorem dX11_about_20 : decode cX11_about 20 = .ok (.iload_n 1, 1) := by decide +kernel
theorem dX11_about_21 : decode cX11_about 21 = .ok (.aaload, 1) := by decide +kernel
theorem dX11_about_22 : decode cX11_about 22 = .ok (.astore_n 3, 1) := by decide +kernel
theorem dX11_about_23 : decode cX11_about 23 = .ok (.iload_n 2, 1) := by decide +kernel
theorem dX11_about_24 : decode cX11_about 24 = .ok (.tableswitch 70 0 5 #[40, 45, 50, 55, 60, 65], 40) := by decide +kernel
theorem dX11_about_64 : decode cX11_about 64 = .ok (.aload_n 3, 1) := by decide +kernel
theorem dX11_about_65 : decode cX11_about 65 = .ok (.getfield 86, 3) := by decide +kernel
theorem dX11_about_68 : decode cX11_about 68 = .ok (.ireturn, 1) := by decide +kernel
theorem dX11_about_69 : decode cX11_about 69 = .ok (.aload_n 3, 1) := by decide +kernel
theorem dX11_about_70 : decode cX11_about 70 = .ok (.getfield 91, 3) := by decide +kernel
theorem dX11_about_73 : decode cX11_about 73 = .ok (.ireturn, 1) := by decide +kernel
theorem dX11_about_74 : decode cX11_about 74 = .ok (.aload_n 3, 1) := by decide +kernel
theorem dX11_about_75 : decode cX11_about 75 = .ok (.getfield 94, 3) := by decide +kernel
theorem dX11_about_78 : decode cX11_about 78 = .ok (.ireturn, 1) := by decide +kernel
theorem dX11_about_79 : decode cX11_about 79 = .ok (.aload_n 3, 1) := by decide +kernel
theorem dX11_about_80 : decode cX11_about 80 = .ok (.getfield 97, 3) := by decide +kernel
theorem dX11_about_83 : decode cX11_about 83 = .ok (.ireturn, 1) := by decide +kernel
theorem dX11_about_84 : decode cX11_about 84 = .ok (.aload_n 3, 1) := by decide +kernel
theorem dX11_about_85 : decode cX11_about 85 = .ok (.getfield 100, 3) := by decide +kernel
theorem dX11_about_88 : decode cX11_about 88 = .ok (.ireturn, 1) := by decide +kernel
theorem dX11_about_89 : decode cX11_about 89 = .ok (.aload_n 3, 1) := by decide +kernel
theorem dX11_about_90 : decode cX11_about 90 = .ok (.getfield 103, 3) := by decide +kernel
theorem dX11_about_93 : decode cX11_about 93 = .ok (.ireturn, 1) := by decide +kernel
theorem dX11_about_94 : decode cX11_about 94 = .ok (.iconst (-1), 1) := by decide +kernel
theorem dX11_about_95 : decode cX11_about 95 = .ok (.ireturn, 1) := by decide +kernel
theorem dX11_member_0 : decode cX11_member 0 = .ok (.aload_n 0, 1) := by decide +kernel
theorem dX11_member_1 : decode cX11_member 1 = .ok (.getfield 27, 3) := by decide +kernel
theorem dX11_member_4 : decode cX11_member 4 = .ok (.iload_n 1, 1) := by decide +kernel
theorem dX11_member_5 : decode cX11_member 5 = .ok (.iload_n 2, 1) := by decide +kernel
theorem dX11_member_6 : decode cX11_member 6 = .ok (.invokevirtual 106, 3) := by decide +kernel
theorem dX11_member_9 : decode cX11_member 9 = .ok (.ifCond .ne 5, 3) := by decide +kernel
theorem dX11_member_12 : decode cX11_member 12 = .ok (.iconst (-1), 1) := by decide +kernel
theorem dX11_member_13 : decode cX11_member 13 = .ok (.ireturn, 1) := by decide +kernel
theorem dX11_member_14 : decode cX11_member 14 = .ok (.aload_n 0, 1) := by decide +kernel
theorem dX11_member_15 : decode cX11_member 15 = .ok (.getfield 27, 3) := by decide +kernel
theorem dX11_member_18 : decode cX11_member 18 = .ok (.getfield 110, 3) := by decide +kernel
theorem dX11_member_21 : decode cX11_member 21 = .ok (.aload_n 0, 1) := by decide +kernel
theorem dX11_member_22 : decode cX11_member 22 = .ok (.getfield 27, 3) := by decide +kernel
theorem dX11_member_25 : decode cX11_member 25 = .ok (.getfield 82, 3) := by decide +kernel
theorem dX11_member_28 : decode cX11_member 28 = .ok (.iload_n 1, 1) := by decide +kernel
theorem dX11_member_29 : decode cX11_member 29 = .ok (.aaload, 1) := by decide +kernel
theorem dX11_member_30 : decode cX11_member 30 = .ok (.getfield 114, 3) := by decide +kernel
theorem dX11_member_33 : decode cX11_member 33 = .ok (.iload_n 2, 1) := by decide +kernel
theorem dX11_member_34 : decode cX11_member 34 = .ok (.iaload, 1) := by decide +kernel
theorem dX11_member_35 : decode cX11_member 35 = .ok (.aaload, 1) := by decide +kernel
theorem dX11_member_36 : decode cX11_member 36 = .ok (.astore 4, 2) := by decide +kernel
theorem dX11_member_38 : decode cX11_member 38 = .ok (.iload_n 3, 1) := by decide +kernel
theorem dX11_member_39 : decode cX11_member 39 = .ok (.tableswitch 85 0 5 #[37, 43, 49, 55, 65, 79], 37) := by decide +kernel
theorem dX11_member_76 : decode cX11_member 76 = .ok (.aload 4, 2) := by decide +kernel
theorem dX11_member_78 : decode cX11_member 78 = .ok (.getfield 118, 3) := by decide +kernel
theorem dX11_member_81 : decode cX11_member 81 = .ok (.ireturn, 1) := by decide +kernel
theorem dX11_member_82 : decode cX11_member 82 = .ok (.aload 4, 2) := by decide +kernel
theorem dX11_member_84 : decode cX11_member 84 = .ok (.getfield 123, 3) := by decide +kernel
theorem dX11_member_87 : decode cX11_member 87 = .ok (.ireturn, 1) := by decide +kernel
theorem dX11_member_88 : decode cX11_member 88 = .ok (.aload 4, 2) := by decide +kernel
theorem dX11_member_90 : decode cX11_member 90 = .ok (.getfield 126, 3) := by decide +kernel
theorem dX11_member_93 : decode cX11_member 93 = .ok (.ireturn, 1) := by decide +kernel
theorem dX11_member_94 : decode cX11_member 94 = .ok (.aload_n 0, 1) := by decide +kernel
theorem dX11_member_95 : decode cX11_member 95 = .ok (.getfield 27, 3) := by decide +kernel
theorem dX11_member_98 : decode cX11_member 98 = .ok (.aload 4, 2) := by decide +kernel
theorem dX11_member_100 : decode cX11_member 100 = .ok (.invokevirtual 129, 3) := by decide +kernel
theorem dX11_member_103 : decode cX11_member 103 = .ok (.ireturn, 1) := by decide +kernel
theorem dX11_member_104 : decode cX11_member 104 = .ok (.aload 4, 2) := by decide +kernel
theorem dX11_member_106 : decode cX11_member 106 = .ok (.getfield 133, 3) := by decide +kernel
theorem dX11_member_109 : decode cX11_member 109 = .ok (.ifCond .eq 7, 3) := by decide +kernel
theorem dX11_member_112 : decode cX11_member 112 = .ok (.iconst 1, 1) := by decide +kernel
theorem dX11_member_113 : decode cX11_member 113 = .ok (.goto 4, 3) := by decide +kernel
theorem dX11_member_116 : decode cX11_member 116 = .ok (.iconst 0, 1) := by decide +kernel
theorem dX11_member_117 : decode cX11_member 117 = .ok (.ireturn, 1) := by decide +kernel
theorem dX11_member_118 : decode cX11_member 118 = .ok (.aload 4, 2) := by decide +kernel
theorem dX11_member_120 : decode cX11_member 120 = .ok (.getfield 137, 3) := by decide +kernel
theorem dX11_member_123 : decode cX11_member 123 = .ok (.ireturn, 1) := by decide +kernel
theorem dX11_member_124 : decode cX11_member 124 = .ok (.iconst (-1), 1) := by decide +kernel
theorem dX11_member_125 : decode cX11_member 125 = .ok (.ireturn, 1) := by decide +kernel
theorem dX11_model_0 : decode cX11_model 0 = .ok (.aload_n 0, 1) := by decide +kernel
theorem dX11_model_1 : decode cX11_model 1 = .ok (.getfield 27, 3) := by decide +kernel
theorem dX11_model_4 : decode cX11_model 4 = .ok (.iload_n 1, 1) := by decide +kernel
theorem dX11_model_5 : decode cX11_model 5 = .ok (.invokevirtual 78, 3) := by decide +kernel
theorem dX11_model_8 : decode cX11_model 8 = .ok (.ifCond .eq 19, 3) := by decide +kernel
theorem dX11_model_11 : decode cX11_model 11 = .ok (.iload_n 2, 1) := by decide +kernel
theorem dX11_model_12 : decode cX11_model 12 = .ok (.iconst (-1), 1) := by decide +kernel
theorem dX11_model_13 : decode cX11_model 13 = .ok (.if_icmp .eq 17, 3) := by decide +kernel
theorem dX11_model_16 : decode cX11_model 16 = .ok (.aload_n 0, 1) := by decide +kernel
theorem dX11_model_17 : decode cX11_model 17 = .ok (.getfield 27, 3) := by decide +kernel
theorem dX11_model_20 : decode cX11_model 20 = .ok (.iload_n 2, 1) := by decide +kernel
theorem dX11_model_21 : decode cX11_model 21 = .ok (.invokevirtual 78, 3) := by decide +kernel
theorem dX11_model_24 : decode cX11_model 24 = .ok (.ifCond .ne 6, 3) := by decide +kernel
theorem dX11_model_27 : decode cX11_model 27 = .ok (.bipush (-2), 2) := by decide +kernel
theorem dX11_model_29 : decode cX11_model 29 = .ok (.ireturn, 1) := by decide +kernel
theorem dX11_model_30 : decode cX11_model 30 = .ok (.aload_n 0, 1) := by decide +kernel
theorem dX11_model_31 : decode cX11_model 31 = .ok (.getfield 27, 3) := by decide +kernel
theorem dX11_model_34 : decode cX11_model 34 = .ok (.getfield 82, 3) := by decide +kernel
theorem dX11_model_37 : decode cX11_model 37 = .ok (.iload_n 1, 1) := by decide +kernel
theorem dX11_model_38 : decode cX11_model 38 = .ok (.aaload, 1) := by decide +kernel
theorem dX11_model_39 : decode cX11_model 39 = .ok (.iload_n 2, 1) := by decide +kernel
theorem dX11_model_40 : decode cX11_model 40 = .ok (.putfield 103, 3) := by decide +kernel
theorem dX11_model_43 : decode cX11_model 43 = .ok (.iconst 1, 1) := by decide +kernel
theorem dX11_model_44 : decode cX11_model 44 = .ok (.ireturn, 1) := by decide +kernel
theorem dX11_clear_0 : decode cX11_clear 0 = .ok (.aload_n 0, 1) := by decide +kernel
theorem dX11_clear_1 : decode cX11_clear 1 = .ok (.getfield 39, 3) := by decide +kernel
theorem dX11_clear_4 : decode cX11_clear 4 = .ok (.getfield 140, 3) := by decide +kernel
theorem dX11_clear_7 : decode cX11_clear 7 = .ok (.getfield 144, 3) := by decide +kernel
theorem dX11_clear_10 : decode cX11_clear 10 = .ok (.istore_n 1, 1) := by decide +kernel
theorem dX11_clear_11 : decode cX11_clear 11 = .ok (.aload_n 0, 1) := by decide +kernel
theorem dX11_clear_12 : decode cX11_clear 12 = .ok (.getfield 39, 3) := by decide +kernel
theorem dX11_clear_15 : decode cX11_clear 15 = .ok (.invokevirtual 149, 3) := by decide +kernel
theorem dX11_clear_18 : decode cX11_clear 18 = .ok (.iload_n 1, 1) := by decide +kernel
theorem dX11_clear_19 : decode cX11_clear 19 = .ok (.ireturn, 1) := by decide +kernel
theorem dX11_make_0 : decode cX11_make 0 = .ok (.aload_n 0, 1) := by decide +kernel
theorem dX11_make_1 : decode cX11_make 1 = .ok (.getfield 27, 3) := by decide +kernel
theorem dX11_make_4 : decode cX11_make 4 = .ok (.iload_n 1, 1) := by decide +kernel
theorem dX11_make_5 : decode cX11_make 5 = .ok (.invokevirtual 78, 3) := by decide +kernel
theorem dX11_make_8 : decode cX11_make 8 = .ok (.ifCond .ne 6, 3) := by decide +kernel
theorem dX11_make_11 : decode cX11_make 11 = .ok (.bipush (-2), 2) := by decide +kernel
theorem dX11_make_13 : decode cX11_make 13 = .ok (.ireturn, 1) := by decide +kernel
theorem dX11_make_14 : decode cX11_make 14 = .ok (.aload_n 0, 1) := by decide +kernel
theorem dX11_make_15 : decode cX11_make 15 = .ok (.getfield 39, 3) := by decide +kernel
theorem dX11_make_18 : decode cX11_make 18 = .ok (.getfield 140, 3) := by decide +kernel
theorem dX11_make_21 : decode cX11_make 21 = .ok (.invokevirtual 152, 3) := by decide +kernel
theorem dX11_make_24 : decode cX11_make 24 = .ok (.ifCond .ne 6, 3) := by decide +kernel
theorem dX11_make_27 : decode cX11_make 27 = .ok (.bipush (-3), 2) := by decide +kernel
theorem dX11_make_29 : decode cX11_make 29 = .ok (.ireturn, 1) := by decide +kernel
theorem dX11_make_30 : decode cX11_make 30 = .ok (.aload_n 0, 1) := by decide +kernel
theorem dX11_make_31 : decode cX11_make 31 = .ok (.getfield 39, 3) := by decide +kernel
theorem dX11_make_34 : decode cX11_make 34 = .ok (.iload_n 1, 1) := by decide +kernel
theorem dX11_make_35 : decode cX11_make 35 = .ok (.invokevirtual 155, 3) := by decide +kernel
theorem dX11_make_38 : decode cX11_make 38 = .ok (.ireturn, 1) := by decide +kernel
theorem dX11_call_0 : decode cX11_call 0 = .ok (.aload_n 0, 1) := by decide +kernel
theorem dX11_call_1 : decode cX11_call 1 = .ok (.getfield 39, 3) := by decide +kernel
theorem dX11_call_4 : decode cX11_call 4 = .ok (.getfield 140, 3) := by decide +kernel
theorem dX11_call_7 : decode cX11_call 7 = .ok (.aload_n 0, 1) := by decide +kernel
theorem dX11_call_8 : decode cX11_call 8 = .ok (.getfield 27, 3) := by decide +kernel
theorem dX11_call_11 : decode cX11_call 11 = .ok (.iload_n 1, 1) := by decide +kernel
theorem dX11_call_12 : decode cX11_call 12 = .ok (.iload_n 2, 1) := by decide +kernel
theorem dX11_call_13 : decode cX11_call 13 = .ok (.iload_n 3, 1) := by decide +kernel
theorem dX11_call_14 : decode cX11_call 14 = .ok (.iload 4, 2) := by decide +kernel
theorem dX11_call_16 : decode cX11_call 16 = .ok (.iload 5, 2) := by decide +kernel
theorem dX11_call_18 : decode cX11_call 18 = .ok (.invokevirtual 159, 3) := by decide +kernel
theorem dX11_call_21 : decode cX11_call 21 = .ok (.ifCond .ne 6, 3) := by decide +kernel
theorem dX11_call_24 : decode cX11_call 24 = .ok (.bipush (-2), 2) := by decide +kernel
theorem dX11_call_26 : decode cX11_call 26 = .ok (.ireturn, 1) := by decide +kernel
theorem dX11_call_27 : decode cX11_call 27 = .ok (.aload_n 0, 1) := by decide +kernel
theorem dX11_call_28 : decode cX11_call 28 = .ok (.getfield 39, 3) := by decide +kernel
theorem dX11_call_31 : decode cX11_call 31 = .ok (.getfield 140, 3) := by decide +kernel
theorem dX11_call_34 : decode cX11_call 34 = .ok (.invokevirtual 163, 3) := by decide +kernel
theorem dX11_call_37 : decode cX11_call 37 = .ok (.ifCond .ne 6, 3) := by decide +kernel
theorem dX11_call_40 : decode cX11_call 40 = .ok (.bipush (-3), 2) := by decide +kernel
theorem dX11_call_42 : decode cX11_call 42 = .ok (.ireturn, 1) := by decide +kernel
theorem dX11_call_43 : decode cX11_call 43 = .ok (.aload_n 0, 1) := by decide +kernel
theorem dX11_call_44 : decode cX11_call 44 = .ok (.getfield 39, 3) := by decide +kernel
theorem dX11_call_47 : decode cX11_call 47 = .ok (.iload_n 1, 1) := by decide +kernel
theorem dX11_call_48 : decode cX11_call 48 = .ok (.iload_n 2, 1) := by decide +kernel
theorem dX11_call_49 : decode cX11_call 49 = .ok (.iload_n 3, 1) := by decide +kernel
theorem dX11_call_50 : decode cX11_call 50 = .ok (.iload 4, 2) := by decide +kernel
theorem dX11_call_52 : decode cX11_call 52 = .ok (.iload 5, 2) := by decide +kernel
theorem dX11_call_54 : decode cX11_call 54 = .ok (.invokevirtual 166, 3) := by decide +kernel
theorem dX11_call_57 : decode cX11_call 57 = .ok (.ireturn, 1) := by decide +kernel
theorem dX11_run_0 : decode cX11_run 0 = .ok (.aload_n 0, 1) := by decide +kernel
theorem dX11_run_1 : decode cX11_run 1 = .ok (.getfield 39, 3) := by decide +kernel
theorem dX11_run_4 : decode cX11_run 4 = .ok (.getfield 140, 3) := by decide +kernel
theorem dX11_run_7 : decode cX11_run 7 = .ok (.getfield 144, 3) := by decide +kernel
theorem dX11_run_10 : decode cX11_run 10 = .ok (.ifCond .ne 6, 3) := by decide +kernel
theorem dX11_run_13 : decode cX11_run 13 = .ok (.bipush (-2), 2) := by decide +kernel
theorem dX11_run_15 : decode cX11_run 15 = .ok (.ireturn, 1) := by decide +kernel
theorem dX11_run_16 : decode cX11_run 16 = .ok (.aload_n 0, 1) := by decide +kernel
theorem dX11_run_17 : decode cX11_run 17 = .ok (.getfield 39, 3) := by decide +kernel
theorem dX11_run_20 : decode cX11_run 20 = .ok (.invokevirtual 170, 3) := by decide +kernel
theorem dX11_run_23 : decode cX11_run 23 = .ok (.aload_n 0, 1) := by decide +kernel
theorem dX11_run_24 : decode cX11_run 24 = .ok (.getfield 39, 3) := by decide +kernel
theorem dX11_run_27 : decode cX11_run 27 = .ok (.getfield 173, 3) := by decide +kernel
theorem dX11_run_30 : decode cX11_run 30 = .ok (.getfield 177, 3) := by decide +kernel
theorem dX11_run_33 : decode cX11_run 33 = .ok (.ireturn, 1) := by decide +kernel
theorem dX11_draw_0 : decode cX11_draw 0 = .ok (.aload_n 0, 1) := by decide +kernel
theorem dX11_draw_1 : decode cX11_draw 1 = .ok (.getfield 27, 3) := by decide +kernel
theorem dX11_draw_4 : decode cX11_draw 4 = .ok (.iload_n 1, 1) := by decide +kernel
theorem dX11_draw_5 : decode cX11_draw 5 = .ok (.invokevirtual 78, 3) := by decide +kernel
theorem dX11_draw_8 : decode cX11_draw 8 = .ok (.ifCond .eq 14, 3) := by decide +kernel
theorem dX11_draw_11 : decode cX11_draw 11 = .ok (.iload_n 3, 1) := by decide +kernel
theorem dX11_draw_12 : decode cX11_draw 12 = .ok (.iconst 1, 1) := by decide +kernel
theorem dX11_draw_13 : decode cX11_draw 13 = .ok (.if_icmp .lt 9, 3) := by decide +kernel
theorem dX11_draw_16 : decode cX11_draw 16 = .ok (.iload_n 3, 1) := by decide +kernel
theorem dX11_draw_17 : decode cX11_draw 17 = .ok (.bipush 100, 2) := by decide +kernel
theorem dX11_draw_19 : decode cX11_draw 19 = .ok (.if_icmp .le 6, 3) := by decide +kernel
theorem dX11_draw_22 : decode cX11_draw 22 = .ok (.bipush (-2), 2) := by decide +kernel
theorem dX11_draw_24 : decode cX11_draw 24 = .ok (.ireturn, 1) := by decide +kernel
theorem dX11_draw_25 : decode cX11_draw 25 = .ok (.aload_n 0, 1) := by decide +kernel
theorem dX11_draw_26 : decode cX11_draw 26 = .ok (.getfield 39, 3) := by decide +kernel
theorem dX11_draw_29 : decode cX11_draw 29 = .ok (.iload_n 1, 1) := by decide +kernel
theorem dX11_draw_30 : decode cX11_draw 30 = .ok (.iload_n 2, 1) := by decide +kernel
theorem dX11_draw_31 : decode cX11_draw 31 = .ok (.iload_n 3, 1) := by decide +kernel
theorem dX11_draw_32 : decode cX11_draw 32 = .ok (.invokevirtual 182, 3) := by decide +kernel
theorem dX11_draw_35 : decode cX11_draw 35 = .ok (.ireturn, 1) := by decide +kernel
theorem dX11_tried_0 : decode cX11_tried 0 = .ok (.aload_n 0, 1) := by decide +kernel
theorem dX11_tried_1 : decode cX11_tried 1 = .ok (.getfield 39, 3) := by decide +kernel
theorem dX11_tried_4 : decode cX11_tried 4 = .ok (.getfield 190, 3) := by decide +kernel
theorem dX11_tried_7 : decode cX11_tried 7 = .ok (.ireturn, 1) := by decide +kernel
theorem dX11_cut_0 : decode cX11_cut 0 = .ok (.aload_n 0, 1) := by decide +kernel
theorem dX11_cut_1 : decode cX11_cut 1 = .ok (.getfield 39, 3) := by decide +kernel
theorem dX11_cut_4 : decode cX11_cut 4 = .ok (.getfield 193, 3) := by decide +kernel
theorem dX11_cut_7 : decode cX11_cut 7 = .ok (.ireturn, 1) := by decide +kernel
theorem dX11_verdict_0 : decode cX11_verdict 0 = .ok (.aload_n 0, 1) := by decide +kernel
theorem dX11_verdict_1 : decode cX11_verdict 1 = .ok (.getfield 39, 3) := by decide +kernel
theorem dX11_verdict_4 : decode cX11_verdict 4 = .ok (.getfield 173, 3) := by decide +kernel
theorem dX11_verdict_7 : decode cX11_verdict 7 = .ok (.getfield 177, 3) := by decide +kernel
theorem dX11_verdict_10 : decode cX11_verdict 10 = .ok (.ireturn, 1) := by decide +kernel
theorem dX11_condition_0 : decode cX11_condition 0 = .ok (.aload_n 0, 1) := by decide +kernel
theorem dX11_condition_1 : decode cX11_condition 1 = .ok (.getfield 39, 3) := by decide +kernel
theorem dX11_condition_4 : decode cX11_condition 4 = .ok (.getfield 173, 3) := by decide +kernel
theorem dX11_condition_7 : decode cX11_condition 7 = .ok (.astore_n 2, 1) := by decide +kernel
theorem dX11_condition_8 : decode cX11_condition 8 = .ok (.aload_n 2, 1) := by decide +kernel
theorem dX11_condition_9 : decode cX11_condition 9 = .ok (.getfield 202, 3) := by decide +kernel
theorem dX11_condition_12 : decode cX11_condition 12 = .ok (.istore_n 3, 1) := by decide +kernel
theorem dX11_condition_13 : decode cX11_condition 13 = .ok (.iload_n 3, 1) := by decide +kernel
theorem dX11_condition_14 : decode cX11_condition 14 = .ok (.ifCond .lt 14, 3) := by decide +kernel
theorem dX11_condition_17 : decode cX11_condition 17 = .ok (.iload_n 3, 1) := by decide +kernel
theorem dX11_condition_18 : decode cX11_condition 18 = .ok (.aload_n 0, 1) := by decide +kernel
theorem dX11_condition_19 : decode cX11_condition 19 = .ok (.getfield 27, 3) := by decide +kernel
theorem dX11_condition_22 : decode cX11_condition 22 = .ok (.getfield 205, 3) := by decide +kernel
theorem dX11_condition_25 : decode cX11_condition 25 = .ok (.if_icmp .lt 5, 3) := by decide +kernel
theorem dX11_condition_28 : decode cX11_condition 28 = .ok (.iconst (-1), 1) := by decide +kernel
theorem dX11_condition_29 : decode cX11_condition 29 = .ok (.ireturn, 1) := by decide +kernel
theorem dX11_condition_30 : decode cX11_condition 30 = .ok (.iload_n 1, 1) := by decide +kernel
theorem dX11_condition_31 : decode cX11_condition 31 = .ok (.tableswitch 64 0 3 #[29, 39, 44, 54], 29) := by decide +kernel
theorem dX11_condition_60 : decode cX11_condition 60 = .ok (.aload_n 0, 1) := by decide +kernel
theorem dX11_condition_61 : decode cX11_condition 61 = .ok (.getfield 27, 3) := by decide +kernel
theorem dX11_condition_64 : decode cX11_condition 64 = .ok (.getfield 208, 3) := by decide +kernel
theorem dX11_condition_67 : decode cX11_condition 67 = .ok (.iload_n 3, 1) := by decide +kernel
theorem dX11_condition_68 : decode cX11_condition 68 = .ok (.iaload, 1) := by decide +kernel
theorem dX11_condition_69 : decode cX11_condition 69 = .ok (.ireturn, 1) := by decide +kernel
theorem dX11_condition_70 : decode cX11_condition 70 = .ok (.aload_n 2, 1) := by decide +kernel
theorem dX11_condition_71 : decode cX11_condition 71 = .ok (.getfield 211, 3) := by decide +kernel
theorem dX11_condition_74 : decode cX11_condition 74 = .ok (.ireturn, 1) := by decide +kernel
theorem dX11_condition_75 : decode cX11_condition 75 = .ok (.aload_n 0, 1) := by decide +kernel
theorem dX11_condition_76 : decode cX11_condition 76 = .ok (.getfield 27, 3) := by decide +kernel
theorem dX11_condition_79 : decode cX11_condition 79 = .ok (.getfield 214, 3) := by decide +kernel
theorem dX11_condition_82 : decode cX11_condition 82 = .ok (.iload_n 3, 1) := by decide +kernel
theorem dX11_condition_83 : decode cX11_condition 83 = .ok (.iaload, 1) := by decide +kernel
theorem dX11_condition_84 : decode cX11_condition 84 = .ok (.ireturn, 1) := by decide +kernel
theorem dX11_condition_85 : decode cX11_condition 85 = .ok (.aload_n 0, 1) := by decide +kernel
theorem dX11_condition_86 : decode cX11_condition 86 = .ok (.getfield 27, 3) := by decide +kernel
theorem dX11_condition_89 : decode cX11_condition 89 = .ok (.getfield 217, 3) := by decide +kernel
theorem dX11_condition_92 : decode cX11_condition 92 = .ok (.iload_n 3, 1) := by decide +kernel
theorem dX11_condition_93 : decode cX11_condition 93 = .ok (.iaload, 1) := by decide +kernel
theorem dX11_condition_94 : decode cX11_condition 94 = .ok (.ireturn, 1) := by decide +kernel
theorem dX11_condition_95 : decode cX11_condition 95 = .ok (.iconst (-1), 1) := by decide +kernel
theorem dX11_condition_96 : decode cX11_condition 96 = .ok (.ireturn, 1) := by decide +kernel
theorem dX11_changed_0 : decode cX11_changed 0 = .ok (.iload_n 1, 1) := by decide +kernel
theorem dX11_changed_1 : decode cX11_changed 1 = .ok (.ifCond .ne 14, 3) := by decide +kernel
theorem dX11_changed_4 : decode cX11_changed 4 = .ok (.aload_n 0, 1) := by decide +kernel
theorem dX11_changed_5 : decode cX11_changed 5 = .ok (.getfield 39, 3) := by decide +kernel
theorem dX11_changed_8 : decode cX11_changed 8 = .ok (.getfield 173, 3) := by decide +kernel
theorem dX11_changed_11 : decode cX11_changed 11 = .ok (.getfield 220, 3) := by decide +kernel
theorem dX11_changed_14 : decode cX11_changed 14 = .ok (.ireturn, 1) := by decide +kernel
theorem dX11_changed_15 : decode cX11_changed 15 = .ok (.iload_n 1, 1) := by decide +kernel
theorem dX11_changed_16 : decode cX11_changed 16 = .ok (.iconst 1, 1) := by decide +kernel
theorem dX11_changed_17 : decode cX11_changed 17 = .ok (.if_icmp .ne 16, 3) := by decide +kernel
theorem dX11_changed_20 : decode cX11_changed 20 = .ok (.aload_n 0, 1) := by decide +kernel
theorem dX11_changed_21 : decode cX11_changed 21 = .ok (.getfield 39, 3) := by decide +kernel
theorem dX11_changed_24 : decode cX11_changed 24 = .ok (.getfield 173, 3) := by decide +kernel
theorem dX11_changed_27 : decode cX11_changed 27 = .ok (.getfield 223, 3) := by decide +kernel
theorem dX11_changed_30 : decode cX11_changed 30 = .ok (.goto 4, 3) := by decide +kernel
theorem dX11_changed_33 : decode cX11_changed 33 = .ok (.iconst (-1), 1) := by decide +kernel
theorem dX11_changed_34 : decode cX11_changed 34 = .ok (.ireturn, 1) := by decide +kernel
theorem dX11_thrown_0 : decode cX11_thrown 0 = .ok (.aload_n 0, 1) := by decide +kernel
theorem dX11_thrown_1 : decode cX11_thrown 1 = .ok (.getfield 39, 3) := by decide +kernel
theorem dX11_thrown_4 : decode cX11_thrown 4 = .ok (.getfield 173, 3) := by decide +kernel
theorem dX11_thrown_7 : decode cX11_thrown 7 = .ok (.getfield 226, 3) := by decide +kernel
theorem dX11_thrown_10 : decode cX11_thrown 10 = .ok (.iload_n 1, 1) := by decide +kernel
theorem dX11_thrown_11 : decode cX11_thrown 11 = .ok (.invokestatic 230, 3) := by decide +kernel
theorem dX11_thrown_14 : decode cX11_thrown 14 = .ok (.ireturn, 1) := by decide +kernel
theorem dX11_row_0 : decode cX11_row 0 = .ok (.aload_n 0, 1) := by decide +kernel
theorem dX11_row_1 : decode cX11_row 1 = .ok (.getfield 39, 3) := by decide +kernel
theorem dX11_row_4 : decode cX11_row 4 = .ok (.getfield 140, 3) := by decide +kernel
theorem dX11_row_7 : decode cX11_row 7 = .ok (.getfield 144, 3) := by decide +kernel
theorem dX11_row_10 : decode cX11_row 10 = .ok (.ireturn, 1) := by decide +kernel
theorem dX11_told_0 : decode cX11_told 0 = .ok (.aload_n 0, 1) := by decide +kernel
theorem dX11_told_1 : decode cX11_told 1 = .ok (.getfield 39, 3) := by decide +kernel
theorem dX11_told_4 : decode cX11_told 4 = .ok (.getfield 140, 3) := by decide +kernel
theorem dX11_told_7 : decode cX11_told 7 = .ok (.astore_n 3, 1) := by decide +kernel
theorem dX11_told_8 : decode cX11_told 8 = .ok (.iload_n 1, 1) := by decide +kernel
theorem dX11_told_9 : decode cX11_told 9 = .ok (.ifCond .lt 11, 3) := by decide +kernel
theorem dX11_told_12 : decode cX11_told 12 = .ok (.iload_n 1, 1) := by decide +kernel
theorem dX11_told_13 : decode cX11_told 13 = .ok (.aload_n 3, 1) := by decide +kernel
theorem dX11_told_14 : decode cX11_told 14 = .ok (.getfield 144, 3) := by decide +kernel
theorem dX11_told_17 : decode cX11_told 17 = .ok (.if_icmp .lt 5, 3) := by decide +kernel
theorem dX11_told_20 : decode cX11_told 20 = .ok (.iconst (-1), 1) := by decide +kernel
theorem dX11_told_21 : decode cX11_told 21 = .ok (.ireturn, 1) := by decide +kernel
theorem dX11_told_22 : decode cX11_told 22 = .ok (.iload_n 2, 1) := by decide +kernel
theorem dX11_told_23 : decode cX11_told 23 = .ok (.tableswitch 108 0 6 #[41, 48, 55, 64, 73, 82, 95], 41) := by decide +kernel
theorem dX11_told_64 : decode cX11_told 64 = .ok (.aload_n 3, 1) := by decide +kernel
theorem dX11_told_65 : decode cX11_told 65 = .ok (.getfield 236, 3) := by decide +kernel
theorem dX11_told_68 : decode cX11_told 68 = .ok (.iload_n 1, 1) := by decide +kernel
theorem dX11_told_69 : decode cX11_told 69 = .ok (.iaload, 1) := by decide +kernel
theorem dX11_told_70 : decode cX11_told 70 = .ok (.ireturn, 1) := by decide +kernel
theorem dX11_told_71 : decode cX11_told 71 = .ok (.aload_n 3, 1) := by decide +kernel
theorem dX11_told_72 : decode cX11_told 72 = .ok (.getfield 239, 3) := by decide +kernel
theorem dX11_told_75 : decode cX11_told 75 = .ok (.iload_n 1, 1) := by decide +kernel
theorem dX11_told_76 : decode cX11_told 76 = .ok (.iaload, 1) := by decide +kernel
theorem dX11_told_77 : decode cX11_told 77 = .ok (.ireturn, 1) := by decide +kernel
theorem dX11_told_78 : decode cX11_told 78 = .ok (.aload_n 3, 1) := by decide +kernel
theorem dX11_told_79 : decode cX11_told 79 = .ok (.getfield 242, 3) := by decide +kernel
theorem dX11_told_82 : decode cX11_told 82 = .ok (.iload_n 1, 1) := by decide +kernel
theorem dX11_told_83 : decode cX11_told 83 = .ok (.aaload, 1) := by decide +kernel
theorem dX11_told_84 : decode cX11_told 84 = .ok (.iconst 0, 1) := by decide +kernel
theorem dX11_told_85 : decode cX11_told 85 = .ok (.iaload, 1) := by decide +kernel
theorem dX11_told_86 : decode cX11_told 86 = .ok (.ireturn, 1) := by decide +kernel
theorem dX11_told_87 : decode cX11_told 87 = .ok (.aload_n 3, 1) := by decide +kernel
theorem dX11_told_88 : decode cX11_told 88 = .ok (.getfield 242, 3) := by decide +kernel
theorem dX11_told_91 : decode cX11_told 91 = .ok (.iload_n 1, 1) := by decide +kernel
theorem dX11_told_92 : decode cX11_told 92 = .ok (.aaload, 1) := by decide +kernel
theorem dX11_told_93 : decode cX11_told 93 = .ok (.iconst 1, 1) := by decide +kernel
theorem dX11_told_94 : decode cX11_told 94 = .ok (.iaload, 1) := by decide +kernel
theorem dX11_told_95 : decode cX11_told 95 = .ok (.ireturn, 1) := by decide +kernel
theorem dX11_told_96 : decode cX11_told 96 = .ok (.aload_n 3, 1) := by decide +kernel
theorem dX11_told_97 : decode cX11_told 97 = .ok (.getfield 242, 3) := by decide +kernel
theorem dX11_told_100 : decode cX11_told 100 = .ok (.iload_n 1, 1) := by decide +kernel
theorem dX11_told_101 : decode cX11_told 101 = .ok (.aaload, 1) := by decide +kernel
theorem dX11_told_102 : decode cX11_told 102 = .ok (.iconst 2, 1) := by decide +kernel
theorem dX11_told_103 : decode cX11_told 103 = .ok (.iaload, 1) := by decide +kernel
theorem dX11_told_104 : decode cX11_told 104 = .ok (.ireturn, 1) := by decide +kernel
theorem dX11_told_105 : decode cX11_told 105 = .ok (.aload_n 0, 1) := by decide +kernel
theorem dX11_told_106 : decode cX11_told 106 = .ok (.getfield 39, 3) := by decide +kernel
theorem dX11_told_109 : decode cX11_told 109 = .ok (.getfield 173, 3) := by decide +kernel
theorem dX11_told_112 : decode cX11_told 112 = .ok (.getfield 246, 3) := by decide +kernel
theorem dX11_told_115 : decode cX11_told 115 = .ok (.iload_n 1, 1) := by decide +kernel
theorem dX11_told_116 : decode cX11_told 116 = .ok (.iaload, 1) := by decide +kernel
theorem dX11_told_117 : decode cX11_told 117 = .ok (.ireturn, 1) := by decide +kernel
theorem dX11_told_118 : decode cX11_told 118 = .ok (.aload_n 0, 1) := by decide +kernel
theorem dX11_told_119 : decode cX11_told 119 = .ok (.getfield 39, 3) := by decide +kernel
theorem dX11_told_122 : decode cX11_told 122 = .ok (.getfield 173, 3) := by decide +kernel
theorem dX11_told_125 : decode cX11_told 125 = .ok (.getfield 249, 3) := by decide +kernel
theorem dX11_told_128 : decode cX11_told 128 = .ok (.iload_n 1, 1) := by decide +kernel
theorem dX11_told_129 : decode cX11_told 129 = .ok (.iaload, 1) := by decide +kernel
theorem dX11_told_130 : decode cX11_told 130 = .ok (.ireturn, 1) := by decide +kernel
theorem dX11_told_131 : decode cX11_told 131 = .ok (.iconst (-1), 1) := by decide +kernel
theorem dX11_told_132 : decode cX11_told 132 = .ok (.ireturn, 1) := by decide +kernel
theorem dX11_cell_0 : decode cX11_cell 0 = .ok (.aload_n 0, 1) := by decide +kernel
theorem dX11_cell_1 : decode cX11_cell 1 = .ok (.getfield 39, 3) := by decide +kernel
theorem dX11_cell_4 : decode cX11_cell 4 = .ok (.getfield 173, 3) := by decide +kernel
theorem dX11_cell_7 : decode cX11_cell 7 = .ok (.astore_n 3, 1) := by decide +kernel
theorem dX11_cell_8 : decode cX11_cell 8 = .ok (.iload_n 1, 1) := by decide +kernel
theorem dX11_cell_9 : decode cX11_cell 9 = .ok (.ifCond .lt 32, 3) := by decide +kernel
theorem dX11_cell_12 : decode cX11_cell 12 = .ok (.iload_n 1, 1) := by decide +kernel
theorem dX11_cell_13 : decode cX11_cell 13 = .ok (.aload_n 3, 1) := by decide +kernel
theorem dX11_cell_14 : decode cX11_cell 14 = .ok (.getfield 252, 3) := by decide +kernel
theorem dX11_cell_17 : decode cX11_cell 17 = .ok (.if_icmp .ge 24, 3) := by decide +kernel
theorem dX11_cell_20 : decode cX11_cell 20 = .ok (.iload_n 2, 1) := by decide +kernel
theorem dX11_cell_21 : decode cX11_cell 21 = .ok (.ifCond .lt 20, 3) := by decide +kernel
theorem dX11_cell_24 : decode cX11_cell 24 = .ok (.iload_n 2, 1) := by decide +kernel
theorem dX11_cell_25 : decode cX11_cell 25 = .ok (.aload_n 0, 1) := by decide +kernel
theorem dX11_cell_26 : decode cX11_cell 26 = .ok (.getfield 27, 3) := by decide +kernel
theorem dX11_cell_29 : decode cX11_cell 29 = .ok (.aload_n 3, 1) := by decide +kernel
theorem dX11_cell_30 : decode cX11_cell 30 = .ok (.getfield 255, 3) := by decide +kernel
theorem dX11_cell_33 : decode cX11_cell 33 = .ok (.iload_n 1, 1) := by decide +kernel
theorem dX11_cell_34 : decode cX11_cell 34 = .ok (.iaload, 1) := by decide +kernel
theorem dX11_cell_35 : decode cX11_cell 35 = .ok (.invokevirtual 258, 3) := by decide +kernel
theorem dX11_cell_38 : decode cX11_cell 38 = .ok (.if_icmp .lt 7, 3) := by decide +kernel
theorem dX11_cell_41 : decode cX11_cell 41 = .ok (.ldc2_w 263, 3) := by decide +kernel
theorem dX11_cell_44 : decode cX11_cell 44 = .ok (.lreturn, 1) := by decide +kernel
theorem dX11_cell_45 : decode cX11_cell 45 = .ok (.aload_n 3, 1) := by decide +kernel
theorem dX11_cell_46 : decode cX11_cell 46 = .ok (.getfield 265, 3) := by decide +kernel
theorem dX11_cell_49 : decode cX11_cell 49 = .ok (.iload_n 1, 1) := by decide +kernel
theorem dX11_cell_50 : decode cX11_cell 50 = .ok (.aaload, 1) := by decide +kernel
theorem dX11_cell_51 : decode cX11_cell 51 = .ok (.iload_n 2, 1) := by decide +kernel
theorem dX11_cell_52 : decode cX11_cell 52 = .ok (.iaload, 1) := by decide +kernel
theorem dX11_cell_53 : decode cX11_cell 53 = .ok (.i2l, 1) := by decide +kernel
theorem dX11_cell_54 : decode cX11_cell 54 = .ok (.lreturn, 1) := by decide +kernel
theorem dX11_beside_0 : decode cX11_beside 0 = .ok (.aload_n 0, 1) := by decide +kernel
theorem dX11_beside_1 : decode cX11_beside 1 = .ok (.getfield 39, 3) := by decide +kernel
theorem dX11_beside_4 : decode cX11_beside 4 = .ok (.getfield 173, 3) := by decide +kernel
theorem dX11_beside_7 : decode cX11_beside 7 = .ok (.astore_n 3, 1) := by decide +kernel
theorem dX11_beside_8 : decode cX11_beside 8 = .ok (.iload_n 1, 1) := by decide +kernel
theorem dX11_beside_9 : decode cX11_beside 9 = .ok (.ifCond .lt 32, 3) := by decide +kernel
theorem dX11_beside_12 : decode cX11_beside 12 = .ok (.iload_n 1, 1) := by decide +kernel
theorem dX11_beside_13 : decode cX11_beside 13 = .ok (.aload_n 3, 1) := by decide +kernel
theorem dX11_beside_14 : decode cX11_beside 14 = .ok (.getfield 252, 3) := by decide +kernel
theorem dX11_beside_17 : decode cX11_beside 17 = .ok (.if_icmp .ge 24, 3) := by decide +kernel
theorem dX11_beside_20 : decode cX11_beside 20 = .ok (.iload_n 2, 1) := by decide +kernel
theorem dX11_beside_21 : decode cX11_beside 21 = .ok (.ifCond .lt 20, 3) := by decide +kernel
theorem dX11_beside_24 : decode cX11_beside 24 = .ok (.iload_n 2, 1) := by decide +kernel
theorem dX11_beside_25 : decode cX11_beside 25 = .ok (.aload_n 0, 1) := by decide +kernel
theorem dX11_beside_26 : decode cX11_beside 26 = .ok (.getfield 27, 3) := by decide +kernel
theorem dX11_beside_29 : decode cX11_beside 29 = .ok (.aload_n 3, 1) := by decide +kernel
theorem dX11_beside_30 : decode cX11_beside 30 = .ok (.getfield 267, 3) := by decide +kernel
theorem dX11_beside_33 : decode cX11_beside 33 = .ok (.iload_n 1, 1) := by decide +kernel
theorem dX11_beside_34 : decode cX11_beside 34 = .ok (.iaload, 1) := by decide +kernel
theorem dX11_beside_35 : decode cX11_beside 35 = .ok (.invokevirtual 258, 3) := by decide +kernel
theorem dX11_beside_38 : decode cX11_beside 38 = .ok (.if_icmp .lt 7, 3) := by decide +kernel
theorem dX11_beside_41 : decode cX11_beside 41 = .ok (.ldc2_w 263, 3) := by decide +kernel
theorem dX11_beside_44 : decode cX11_beside 44 = .ok (.lreturn, 1) := by decide +kernel
theorem dX11_beside_45 : decode cX11_beside 45 = .ok (.aload_n 3, 1) := by decide +kernel
theorem dX11_beside_46 : decode cX11_beside 46 = .ok (.getfield 270, 3) := by decide +kernel
theorem dX11_beside_49 : decode cX11_beside 49 = .ok (.iload_n 1, 1) := by decide +kernel
theorem dX11_beside_50 : decode cX11_beside 50 = .ok (.aaload, 1) := by decide +kernel
theorem dX11_beside_51 : decode cX11_beside 51 = .ok (.iload_n 2, 1) := by decide +kernel
theorem dX11_beside_52 : decode cX11_beside 52 = .ok (.iaload, 1) := by decide +kernel
theorem dX11_beside_53 : decode cX11_beside 53 = .ok (.i2l, 1) := by decide +kernel
theorem dX11_beside_54 : decode cX11_beside 54 = .ok (.lreturn, 1) := by decide +kernel
theorem dX11_count_0 : decode cX11_count 0 = .ok (.iload_n 1, 1) := by decide +kernel
theorem dX11_count_1 : decode cX11_count 1 = .ok (.tableswitch 63 0 3 #[31, 39, 44, 52], 31) := by decide +kernel
theorem dX11_count_32 : decode cX11_count 32 = .ok (.aload_n 0, 1) := by decide +kernel
theorem dX11_count_33 : decode cX11_count 33 = .ok (.getfield 27, 3) := by decide +kernel
theorem dX11_count_36 : decode cX11_count 36 = .ok (.getfield 75, 3) := by decide +kernel
theorem dX11_count_39 : decode cX11_count 39 = .ok (.ireturn, 1) := by decide +kernel
theorem dX11_count_40 : decode cX11_count 40 = .ok (.aload_n 0, 1) := by decide +kernel
theorem dX11_count_41 : decode cX11_count 41 = .ok (.getfield 13, 3) := by decide +kernel
theorem dX11_count_44 : decode cX11_count 44 = .ok (.ireturn, 1) := by decide +kernel
theorem dX11_count_45 : decode cX11_count 45 = .ok (.aload_n 0, 1) := by decide +kernel
theorem dX11_count_46 : decode cX11_count 46 = .ok (.getfield 27, 3) := by decide +kernel
theorem dX11_count_49 : decode cX11_count 49 = .ok (.getfield 273, 3) := by decide +kernel
theorem dX11_count_52 : decode cX11_count 52 = .ok (.ireturn, 1) := by decide +kernel
theorem dX11_count_53 : decode cX11_count 53 = .ok (.aload_n 0, 1) := by decide +kernel
theorem dX11_count_54 : decode cX11_count 54 = .ok (.getfield 39, 3) := by decide +kernel
theorem dX11_count_57 : decode cX11_count 57 = .ok (.getfield 173, 3) := by decide +kernel
theorem dX11_count_60 : decode cX11_count 60 = .ok (.getfield 252, 3) := by decide +kernel
theorem dX11_count_63 : decode cX11_count 63 = .ok (.ireturn, 1) := by decide +kernel
theorem dX11_count_64 : decode cX11_count 64 = .ok (.iconst (-1), 1) := by decide +kernel
theorem dX11_count_65 : decode cX11_count 65 = .ok (.ireturn, 1) := by decide +kernel
