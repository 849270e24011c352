theorem dX12_fieldOf_0 : decode cX12_fieldOf 0 = .ok (.iconst 0, 1) := by decide +kernel
theorem dX12_fieldOf_1 : decode cX12_fieldOf 1 = .ok (.istore 6, 2) := by decide +kernel
theorem dX12_fieldOf_3 : decode cX12_fieldOf 3 = .ok (.iload 6, 2) := by decide +kernel
theorem dX12_fieldOf_5 : decode cX12_fieldOf 5 = .ok (.aload_n 0, 1) := by decide +kernel
theorem dX12_fieldOf_6 : decode cX12_fieldOf 6 = .ok (.getfield 22, 3) := by decide +kernel
theorem dX12_fieldOf_9 : decode cX12_fieldOf 9 = .ok (.iload_n 1, 1) := by decide +kernel
theorem dX12_fieldOf_10 : decode cX12_fieldOf 10 = .ok (.iaload, 1) := by decide +kernel
theorem dX12_fieldOf_11 : decode cX12_fieldOf 11 = .ok (.if_icmp .ge 47, 3) := by decide +kernel
theorem dX12_fieldOf_14 : decode cX12_fieldOf 14 = .ok (.aload_n 0, 1) := by decide +kernel
theorem dX12_fieldOf_15 : decode cX12_fieldOf 15 = .ok (.getfield 28, 3) := by decide +kernel
theorem dX12_fieldOf_18 : decode cX12_fieldOf 18 = .ok (.bipush 10, 2) := by decide +kernel
theorem dX12_fieldOf_20 : decode cX12_fieldOf 20 = .ok (.iload_n 1, 1) := by decide +kernel
theorem dX12_fieldOf_21 : decode cX12_fieldOf 21 = .ok (.imul, 1) := by decide +kernel
theorem dX12_fieldOf_22 : decode cX12_fieldOf 22 = .ok (.iload 6, 2) := by decide +kernel
theorem dX12_fieldOf_24 : decode cX12_fieldOf 24 = .ok (.iadd, 1) := by decide +kernel
theorem dX12_fieldOf_25 : decode cX12_fieldOf 25 = .ok (.laload, 1) := by decide +kernel
theorem dX12_fieldOf_26 : decode cX12_fieldOf 26 = .ok (.lload_n 2, 1) := by decide +kernel
theorem dX12_fieldOf_27 : decode cX12_fieldOf 27 = .ok (.lcmp, 1) := by decide +kernel
theorem dX12_fieldOf_28 : decode cX12_fieldOf 28 = .ok (.ifCond .ne 24, 3) := by decide +kernel
theorem dX12_fieldOf_31 : decode cX12_fieldOf 31 = .ok (.aload_n 0, 1) := by decide +kernel
theorem dX12_fieldOf_32 : decode cX12_fieldOf 32 = .ok (.getfield 31, 3) := by decide +kernel
theorem dX12_fieldOf_35 : decode cX12_fieldOf 35 = .ok (.bipush 10, 2) := by decide +kernel
theorem dX12_fieldOf_37 : decode cX12_fieldOf 37 = .ok (.iload_n 1, 1) := by decide +kernel
theorem dX12_fieldOf_38 : decode cX12_fieldOf 38 = .ok (.imul, 1) := by decide +kernel
theorem dX12_fieldOf_39 : decode cX12_fieldOf 39 = .ok (.iload 6, 2) := by decide +kernel
theorem dX12_fieldOf_41 : decode cX12_fieldOf 41 = .ok (.iadd, 1) := by decide +kernel
theorem dX12_fieldOf_42 : decode cX12_fieldOf 42 = .ok (.laload, 1) := by decide +kernel
theorem dX12_fieldOf_43 : decode cX12_fieldOf 43 = .ok (.lload 4, 2) := by decide +kernel
theorem dX12_fieldOf_45 : decode cX12_fieldOf 45 = .ok (.lcmp, 1) := by decide +kernel
theorem dX12_fieldOf_46 : decode cX12_fieldOf 46 = .ok (.ifCond .ne 6, 3) := by decide +kernel
theorem dX12_fieldOf_49 : decode cX12_fieldOf 49 = .ok (.iload 6, 2) := by decide +kernel
theorem dX12_fieldOf_51 : decode cX12_fieldOf 51 = .ok (.ireturn, 1) := by decide +kernel
theorem dX12_fieldOf_52 : decode cX12_fieldOf 52 = .ok (.iinc 6 1, 3) := by decide +kernel
theorem dX12_fieldOf_55 : decode cX12_fieldOf 55 = .ok (.goto (-52), 3) := by decide +kernel
theorem dX12_fieldOf_58 : decode cX12_fieldOf 58 = .ok (.iconst (-1), 1) := by decide +kernel
theorem dX12_fieldOf_59 : decode cX12_fieldOf 59 = .ok (.ireturn, 1) := by decide +kernel
theorem dX14_in_0 : decode cX14_in 0 = .ok (.lload_n 0, 1) := by decide +kernel
theorem dX14_in_1 : decode cX14_in 1 = .ok (.lload_n 2, 1) := by decide +kernel
theorem dX14_in_2 : decode cX14_in 2 = .ok (.lcmp, 1) := by decide +kernel
theorem dX14_in_3 : decode cX14_in 3 = .ok (.ifCond .lt 14, 3) := by decide +kernel
theorem dX14_in_6 : decode cX14_in 6 = .ok (.lload_n 0, 1) := by decide +kernel
theorem dX14_in_7 : decode cX14_in 7 = .ok (.lload 4, 2) := by decide +kernel
theorem dX14_in_9 : decode cX14_in 9 = .ok (.lcmp, 1) := by decide +kernel
theorem dX14_in_10 : decode cX14_in 10 = .ok (.ifCond .gt 7, 3) := by decide +kernel
theorem dX14_in_13 : decode cX14_in 13 = .ok (.iconst 1, 1) := by decide +kernel
theorem dX14_in_14 : decode cX14_in 14 = .ok (.goto 4, 3) := by decide +kernel
theorem dX14_in_17 : decode cX14_in 17 = .ok (.iconst 0, 1) := by decide +kernel
theorem dX14_in_18 : decode cX14_in 18 = .ok (.ireturn, 1) := by decide +kernel
theorem dX14_isSmall_0 : decode cX14_isSmall 0 = .ok (.iload_n 0, 1) := by decide +kernel
theorem dX14_isSmall_1 : decode cX14_isSmall 1 = .ok (.bipush 97, 2) := by decide +kernel
theorem dX14_isSmall_3 : decode cX14_isSmall 3 = .ok (.if_icmp .lt 13, 3) := by decide +kernel
theorem dX14_isSmall_6 : decode cX14_isSmall 6 = .ok (.iload_n 0, 1) := by decide +kernel
theorem dX14_isSmall_7 : decode cX14_isSmall 7 = .ok (.bipush 122, 2) := by decide +kernel
theorem dX14_isSmall_9 : decode cX14_isSmall 9 = .ok (.if_icmp .gt 7, 3) := by decide +kernel
theorem dX14_isSmall_12 : decode cX14_isSmall 12 = .ok (.iconst 1, 1) := by decide +kernel
theorem dX14_isSmall_13 : decode cX14_isSmall 13 = .ok (.goto 4, 3) := by decide +kernel
theorem dX14_isSmall_16 : decode cX14_isSmall 16 = .ok (.iconst 0, 1) := by decide +kernel
theorem dX14_isSmall_17 : decode cX14_isSmall 17 = .ok (.ireturn, 1) := by decide +kernel
theorem dX14_isDigit_0 : decode cX14_isDigit 0 = .ok (.iload_n 0, 1) := by decide +kernel
theorem dX14_isDigit_1 : decode cX14_isDigit 1 = .ok (.bipush 48, 2) := by decide +kernel
theorem dX14_isDigit_3 : decode cX14_isDigit 3 = .ok (.if_icmp .lt 13, 3) := by decide +kernel
theorem dX14_isDigit_6 : decode cX14_isDigit 6 = .ok (.iload_n 0, 1) := by decide +kernel
theorem dX14_isDigit_7 : decode cX14_isDigit 7 = .ok (.bipush 57, 2) := by decide +kernel
theorem dX14_isDigit_9 : decode cX14_isDigit 9 = .ok (.if_icmp .gt 7, 3) := by decide +kernel
theorem dX14_isDigit_12 : decode cX14_isDigit 12 = .ok (.iconst 1, 1) := by decide +kernel
theorem dX14_isDigit_13 : decode cX14_isDigit 13 = .ok (.goto 4, 3) := by decide +kernel
theorem dX14_isDigit_16 : decode cX14_isDigit 16 = .ok (.iconst 0, 1) := by decide +kernel
theorem dX14_isDigit_17 : decode cX14_isDigit 17 = .ok (.ireturn, 1) := by decide +kernel
theorem dX14_wrong_0 : decode cX14_wrong 0 = .ok (.aload_n 0, 1) := by decide +kernel
theorem dX14_wrong_1 : decode cX14_wrong 1 = .ok (.iload_n 1, 1) := by decide +kernel
theorem dX14_wrong_2 : decode cX14_wrong 2 = .ok (.putfield 102, 3) := by decide +kernel
theorem dX14_wrong_5 : decode cX14_wrong 5 = .ok (.aload_n 0, 1) := by decide +kernel
theorem dX14_wrong_6 : decode cX14_wrong 6 = .ok (.iload_n 2, 1) := by decide +kernel
theorem dX14_wrong_7 : decode cX14_wrong 7 = .ok (.putfield 30, 3) := by decide +kernel
theorem dX14_wrong_10 : decode cX14_wrong 10 = .ok (.aload_n 0, 1) := by decide +kernel
theorem dX14_wrong_11 : decode cX14_wrong 11 = .ok (.getfield 10, 3) := by decide +kernel
theorem dX14_wrong_14 : decode cX14_wrong 14 = .ok (.athrow, 1) := by decide +kernel
theorem dX14_need_0 : decode cX14_need 0 = .ok (.iload_n 1, 1) := by decide +kernel
theorem dX14_need_1 : decode cX14_need 1 = .ok (.ifCond .ne 9, 3) := by decide +kernel
theorem dX14_need_4 : decode cX14_need 4 = .ok (.aload_n 0, 1) := by decide +kernel
theorem dX14_need_5 : decode cX14_need 5 = .ok (.iload_n 2, 1) := by decide +kernel
theorem dX14_need_6 : decode cX14_need 6 = .ok (.iload_n 3, 1) := by decide +kernel
theorem dX14_need_7 : decode cX14_need 7 = .ok (.invokevirtual 105, 3) := by decide +kernel
theorem dX14_need_10 : decode cX14_need 10 = .ok (.return_, 1) := by decide +kernel
theorem dX14_isSign_0 : decode cX14_isSign 0 = .ok (.aload_n 0, 1) := by decide +kernel
theorem dX14_isSign_1 : decode cX14_isSign 1 = .ok (.getfield 131, 3) := by decide +kernel
theorem dX14_isSign_4 : decode cX14_isSign 4 = .ok (.iconst 4, 1) := by decide +kernel
theorem dX14_isSign_5 : decode cX14_isSign 5 = .ok (.if_icmp .ne 15, 3) := by decide +kernel
theorem dX14_isSign_8 : decode cX14_isSign 8 = .ok (.aload_n 0, 1) := by decide +kernel
theorem dX14_isSign_9 : decode cX14_isSign 9 = .ok (.getfield 148, 3) := by decide +kernel
theorem dX14_isSign_12 : decode cX14_isSign 12 = .ok (.iload_n 1, 1) := by decide +kernel
theorem dX14_isSign_13 : decode cX14_isSign 13 = .ok (.if_icmp .ne 7, 3) := by decide +kernel
theorem dX14_isSign_16 : decode cX14_isSign 16 = .ok (.iconst 1, 1) := by decide +kernel
theorem dX14_isSign_17 : decode cX14_isSign 17 = .ok (.goto 4, 3) := by decide +kernel
theorem dX14_isSign_20 : decode cX14_isSign 20 = .ok (.iconst 0, 1) := by decide +kernel
theorem dX14_isSign_21 : decode cX14_isSign 21 = .ok (.ireturn, 1) := by decide +kernel
theorem dX14_isWord_0 : decode cX14_isWord 0 = .ok (.aload_n 0, 1) := by decide +kernel
theorem dX14_isWord_1 : decode cX14_isWord 1 = .ok (.getfield 131, 3) := by decide +kernel
theorem dX14_isWord_4 : decode cX14_isWord 4 = .ok (.iconst 2, 1) := by decide +kernel
theorem dX14_isWord_5 : decode cX14_isWord 5 = .ok (.if_icmp .ne 15, 3) := by decide +kernel
theorem dX14_isWord_8 : decode cX14_isWord 8 = .ok (.aload_n 0, 1) := by decide +kernel
theorem dX14_isWord_9 : decode cX14_isWord 9 = .ok (.getfield 148, 3) := by decide +kernel
theorem dX14_isWord_12 : decode cX14_isWord 12 = .ok (.iload_n 1, 1) := by decide +kernel
theorem dX14_isWord_13 : decode cX14_isWord 13 = .ok (.if_icmp .ne 7, 3) := by decide +kernel
theorem dX14_isWord_16 : decode cX14_isWord 16 = .ok (.iconst 1, 1) := by decide +kernel
theorem dX14_isWord_17 : decode cX14_isWord 17 = .ok (.goto 4, 3) := by decide +kernel
theorem dX14_isWord_20 : decode cX14_isWord 20 = .ok (.iconst 0, 1) := by decide +kernel
theorem dX14_isWord_21 : decode cX14_isWord 21 = .ok (.ireturn, 1) := by decide +kernel
theorem dX14_room_0 : decode cX14_room 0 = .ok (.aload_n 0, 1) := by decide +kernel
theorem dX14_room_1 : decode cX14_room 1 = .ok (.aload_n 0, 1) := by decide +kernel
theorem dX14_room_2 : decode cX14_room 2 = .ok (.getfield 134, 3) := by decide +kernel
theorem dX14_room_5 : decode cX14_room 5 = .ok (.sipush 1200, 3) := by decide +kernel
theorem dX14_room_8 : decode cX14_room 8 = .ok (.if_icmp .gt 7, 3) := by decide +kernel
theorem dX14_room_11 : decode cX14_room 11 = .ok (.iconst 1, 1) := by decide +kernel
theorem dX14_room_12 : decode cX14_room 12 = .ok (.goto 4, 3) := by decide +kernel
theorem dX14_room_15 : decode cX14_room 15 = .ok (.iconst 0, 1) := by decide +kernel
theorem dX14_room_16 : decode cX14_room 16 = .ok (.iconst 4, 1) := by decide +kernel
theorem dX14_room_17 : decode cX14_room 17 = .ok (.aload_n 0, 1) := by decide +kernel
theorem dX14_room_18 : decode cX14_room 18 = .ok (.getfield 128, 3) := by decide +kernel
theorem dX14_room_21 : decode cX14_room 21 = .ok (.invokevirtual 172, 3) := by decide +kernel
theorem dX14_room_24 : decode cX14_room 24 = .ok (.return_, 1) := by decide +kernel
theorem dX14_named_0 : decode cX14_named 0 = .ok (.aload_n 0, 1) := by decide +kernel
theorem dX14_named_1 : decode cX14_named 1 = .ok (.getfield 191, 3) := by decide +kernel
theorem dX14_named_4 : decode cX14_named 4 = .ok (.ifCond .ne 80, 3) := by decide +kernel
theorem dX14_named_7 : decode cX14_named 7 = .ok (.iconst 0, 1) := by decide +kernel
theorem dX14_named_8 : decode cX14_named 8 = .ok (.istore 5, 2) := by decide +kernel
theorem dX14_named_10 : decode cX14_named 10 = .ok (.iload 5, 2) := by decide +kernel
theorem dX14_named_12 : decode cX14_named 12 = .ok (.aload_n 0, 1) := by decide +kernel
theorem dX14_named_13 : decode cX14_named 13 = .ok (.getfield 195, 3) := by decide +kernel
theorem dX14_named_16 : decode cX14_named 16 = .ok (.aload_n 0, 1) := by decide +kernel
theorem dX14_named_17 : decode cX14_named 17 = .ok (.getfield 198, 3) := by decide +kernel
theorem dX14_named_20 : decode cX14_named 20 = .ok (.iadd, 1) := by decide +kernel
theorem dX14_named_21 : decode cX14_named 21 = .ok (.if_icmp .ge 63, 3) := by decide +kernel
theorem dX14_named_24 : decode cX14_named 24 = .ok (.aload_n 0, 1) := by decide +kernel
theorem dX14_named_25 : decode cX14_named 25 = .ok (.getfield 34, 3) := by decide +kernel
theorem dX14_named_28 : decode cX14_named 28 = .ok (.iload 5, 2) := by decide +kernel
theorem dX14_named_30 : decode cX14_named 30 = .ok (.laload, 1) := by decide +kernel
theorem dX14_named_31 : decode cX14_named 31 = .ok (.lload_n 1, 1) := by decide +kernel
theorem dX14_named_32 : decode cX14_named 32 = .ok (.lcmp, 1) := by decide +kernel
theorem dX14_named_33 : decode cX14_named 33 = .ok (.ifCond .ne 45, 3) := by decide +kernel
theorem dX14_named_36 : decode cX14_named 36 = .ok (.aload_n 0, 1) := by decide +kernel
theorem dX14_named_37 : decode cX14_named 37 = .ok (.getfield 38, 3) := by decide +kernel
theorem dX14_named_40 : decode cX14_named 40 = .ok (.iload 5, 2) := by decide +kernel
theorem dX14_named_42 : decode cX14_named 42 = .ok (.laload, 1) := by decide +kernel
theorem dX14_named_43 : decode cX14_named 43 = .ok (.lload_n 3, 1) := by decide +kernel
theorem dX14_named_44 : decode cX14_named 44 = .ok (.lcmp, 1) := by decide +kernel
theorem dX14_named_45 : decode cX14_named 45 = .ok (.ifCond .ne 33, 3) := by decide +kernel
theorem dX14_named_48 : decode cX14_named 48 = .ok (.iload 5, 2) := by decide +kernel
theorem dX14_named_50 : decode cX14_named 50 = .ok (.aload_n 0, 1) := by decide +kernel
theorem dX14_named_51 : decode cX14_named 51 = .ok (.getfield 195, 3) := by decide +kernel
theorem dX14_named_54 : decode cX14_named 54 = .ok (.if_icmp .ge 12, 3) := by decide +kernel
theorem dX14_named_57 : decode cX14_named 57 = .ok (.sipush 1000, 3) := by decide +kernel
theorem dX14_named_60 : decode cX14_named 60 = .ok (.iload 5, 2) := by decide +kernel
theorem dX14_named_62 : decode cX14_named 62 = .ok (.iadd, 1) := by decide +kernel
theorem dX14_named_63 : decode cX14_named 63 = .ok (.goto 14, 3) := by decide +kernel
theorem dX14_named_66 : decode cX14_named 66 = .ok (.sipush 2000, 3) := by decide +kernel
theorem dX14_named_69 : decode cX14_named 69 = .ok (.iload 5, 2) := by decide +kernel
theorem dX14_named_71 : decode cX14_named 71 = .ok (.iadd, 1) := by decide +kernel
theorem dX14_named_72 : decode cX14_named 72 = .ok (.aload_n 0, 1) := by decide +kernel
theorem dX14_named_73 : decode cX14_named 73 = .ok (.getfield 195, 3) := by decide +kernel
theorem dX14_named_76 : decode cX14_named 76 = .ok (.isub, 1) := by decide +kernel
theorem dX14_named_77 : decode cX14_named 77 = .ok (.ireturn, 1) := by decide +kernel
theorem dX14_named_78 : decode cX14_named 78 = .ok (.iinc 5 1, 3) := by decide +kernel
theorem dX14_named_81 : decode cX14_named 81 = .ok (.goto (-71), 3) := by decide +kernel
theorem dX14_named_84 : decode cX14_named 84 = .ok (.aload_n 0, 1) := by decide +kernel
theorem dX14_named_85 : decode cX14_named 85 = .ok (.getfield 23, 3) := by decide +kernel
theorem dX14_named_88 : decode cX14_named 88 = .ok (.aload_n 0, 1) := by decide +kernel
theorem dX14_named_89 : decode cX14_named 89 = .ok (.getfield 201, 3) := by decide +kernel
theorem dX14_named_92 : decode cX14_named 92 = .ok (.lload_n 1, 1) := by decide +kernel
theorem dX14_named_93 : decode cX14_named 93 = .ok (.lload_n 3, 1) := by decide +kernel
theorem dX14_named_94 : decode cX14_named 94 = .ok (.invokevirtual 204, 3) := by decide +kernel
theorem dX14_named_97 : decode cX14_named 97 = .ok (.ireturn, 1) := by decide +kernel
theorem dX14_counts_0 : decode cX14_counts 0 = .ok (.aload_n 0, 1) := by decide +kernel
theorem dX14_counts_1 : decode cX14_counts 1 = .ok (.aload_n 0, 1) := by decide +kernel
theorem dX14_counts_2 : decode cX14_counts 2 = .ok (.getfield 23, 3) := by decide +kernel
theorem dX14_counts_5 : decode cX14_counts 5 = .ok (.getfield 208, 3) := by decide +kernel
theorem dX14_counts_8 : decode cX14_counts 8 = .ok (.sipush 2000, 3) := by decide +kernel
theorem dX14_counts_11 : decode cX14_counts 11 = .ok (.if_icmp .ge 7, 3) := by decide +kernel
theorem dX14_counts_14 : decode cX14_counts 14 = .ok (.iconst 1, 1) := by decide +kernel
theorem dX14_counts_15 : decode cX14_counts 15 = .ok (.goto 4, 3) := by decide +kernel
theorem dX14_counts_18 : decode cX14_counts 18 = .ok (.iconst 0, 1) := by decide +kernel
theorem dX14_counts_19 : decode cX14_counts 19 = .ok (.iconst 4, 1) := by decide +kernel
theorem dX14_counts_20 : decode cX14_counts 20 = .ok (.aload_n 0, 1) := by decide +kernel
theorem dX14_counts_21 : decode cX14_counts 21 = .ok (.getfield 128, 3) := by decide +kernel
theorem dX14_counts_24 : decode cX14_counts 24 = .ok (.invokevirtual 172, 3) := by decide +kernel
theorem dX14_counts_27 : decode cX14_counts 27 = .ok (.aload_n 0, 1) := by decide +kernel
theorem dX14_counts_28 : decode cX14_counts 28 = .ok (.getfield 23, 3) := by decide +kernel
theorem dX14_counts_31 : decode cX14_counts 31 = .ok (.dup, 1) := by decide +kernel
theorem dX14_counts_32 : decode cX14_counts 32 = .ok (.getfield 208, 3) := by decide +kernel
theorem dX14_counts_35 : decode cX14_counts 35 = .ok (.iconst 1, 1) := by decide +kernel
theorem dX14_counts_36 : decode cX14_counts 36 = .ok (.iadd, 1) := by decide +kernel
theorem dX14_counts_37 : decode cX14_counts 37 = .ok (.putfield 208, 3) := by decide +kernel
theorem dX14_counts_40 : decode cX14_counts 40 = .ok (.return_, 1) := by decide +kernel
theorem dX14_opens_0 : decode cX14_opens 0 = .ok (.aload_n 0, 1) := by decide +kernel
theorem dX14_opens_1 : decode cX14_opens 1 = .ok (.aload_n 0, 1) := by decide +kernel
theorem dX14_opens_2 : decode cX14_opens 2 = .ok (.getfield 241, 3) := by decide +kernel
theorem dX14_opens_5 : decode cX14_opens 5 = .ok (.bipush 40, 2) := by decide +kernel
theorem dX14_opens_7 : decode cX14_opens 7 = .ok (.if_icmp .ge 7, 3) := by decide +kernel
theorem dX14_opens_10 : decode cX14_opens 10 = .ok (.iconst 1, 1) := by decide +kernel
theorem dX14_opens_11 : decode cX14_opens 11 = .ok (.goto 4, 3) := by decide +kernel
theorem dX14_opens_14 : decode cX14_opens 14 = .ok (.iconst 0, 1) := by decide +kernel
theorem dX14_opens_15 : decode cX14_opens 15 = .ok (.iconst 4, 1) := by decide +kernel
theorem dX14_opens_16 : decode cX14_opens 16 = .ok (.iload_n 1, 1) := by decide +kernel
theorem dX14_opens_17 : decode cX14_opens 17 = .ok (.invokevirtual 172, 3) := by decide +kernel
theorem dX14_opens_20 : decode cX14_opens 20 = .ok (.aload_n 0, 1) := by decide +kernel
theorem dX14_opens_21 : decode cX14_opens 21 = .ok (.dup, 1) := by decide +kernel
theorem dX14_opens_22 : decode cX14_opens 22 = .ok (.getfield 241, 3) := by decide +kernel
theorem dX14_opens_25 : decode cX14_opens 25 = .ok (.iconst 1, 1) := by decide +kernel
theorem dX14_opens_26 : decode cX14_opens 26 = .ok (.iadd, 1) := by decide +kernel
theorem dX14_opens_27 : decode cX14_opens 27 = .ok (.putfield 241, 3) := by decide +kernel
theorem dX14_opens_30 : decode cX14_opens 30 = .ok (.return_, 1) := by decide +kernel
theorem dX14_strength_0 : decode cX14_strength 0 = .ok (.aload_n 0, 1) := by decide +kernel
theorem dX14_strength_1 : decode cX14_strength 1 = .ok (.getfield 131, 3) := by decide +kernel
theorem dX14_strength_4 : decode cX14_strength 4 = .ok (.iconst 4, 1) := by decide +kernel
theorem dX14_strength_5 : decode cX14_strength 5 = .ok (.if_icmp .eq 5, 3) := by decide +kernel
theorem dX14_strength_8 : decode cX14_strength 8 = .ok (.iconst 0, 1) := by decide +kernel
theorem dX14_strength_9 : decode cX14_strength 9 = .ok (.ireturn, 1) := by decide +kernel
theorem dX14_strength_10 : decode cX14_strength 10 = .ok (.aload_n 0, 1) := by decide +kernel
theorem dX14_strength_11 : decode cX14_strength 11 = .ok (.getfield 148, 3) := by decide +kernel
theorem dX14_strength_14 : decode cX14_strength 14 = .ok (.lookupswitch 124 #[(37, 122), (42, 122), (43, 120), (45, 120), (47, 122), (60, 118), (62, 118), (8509, 118), (9766, 116), (15421, 118), (15677, 118), (15933, 118), (31868, 114)], 114) := by decide +kernel
theorem dX14_strength_128 : decode cX14_strength 128 = .ok (.iconst 1, 1) := by decide +kernel
theorem dX14_strength_129 : decode cX14_strength 129 = .ok (.ireturn, 1) := by decide +kernel
theorem dX14_strength_130 : decode cX14_strength 130 = .ok (.iconst 2, 1) := by decide +kernel
theorem dX14_strength_131 : decode cX14_strength 131 = .ok (.ireturn, 1) := by decide +kernel
theorem dX14_strength_132 : decode cX14_strength 132 = .ok (.iconst 3, 1) := by decide +kernel
theorem dX14_strength_133 : decode cX14_strength 133 = .ok (.ireturn, 1) := by decide +kernel
theorem dX14_strength_134 : decode cX14_strength 134 = .ok (.iconst 4, 1) := by decide +kernel
theorem dX14_strength_135 : decode cX14_strength 135 = .ok (.ireturn, 1) := by decide +kernel
theorem dX14_strength_136 : decode cX14_strength 136 = .ok (.iconst 5, 1) := by decide +kernel
theorem dX14_strength_137 : decode cX14_strength 137 = .ok (.ireturn, 1) := by decide +kernel
theorem dX14_strength_138 : decode cX14_strength 138 = .ok (.iconst 0, 1) := by decide +kernel
theorem dX14_strength_139 : decode cX14_strength 139 = .ok (.ireturn, 1) := by decide +kernel
theorem dX14_mayBegin_0 : decode cX14_mayBegin 0 = .ok (.aload_n 0, 1) := by decide +kernel
theorem dX14_mayBegin_1 : decode cX14_mayBegin 1 = .ok (.aload_n 0, 1) := by decide +kernel
theorem dX14_mayBegin_2 : decode cX14_mayBegin 2 = .ok (.getfield 23, 3) := by decide +kernel
theorem dX14_mayBegin_5 : decode cX14_mayBegin 5 = .ok (.getfield 314, 3) := by decide +kernel
theorem dX14_mayBegin_8 : decode cX14_mayBegin 8 = .ok (.aload_n 0, 1) := by decide +kernel
theorem dX14_mayBegin_9 : decode cX14_mayBegin 9 = .ok (.getfield 317, 3) := by decide +kernel
theorem dX14_mayBegin_12 : decode cX14_mayBegin 12 = .ok (.iaload, 1) := by decide +kernel
theorem dX14_mayBegin_13 : decode cX14_mayBegin 13 = .ok (.bipush 40, 2) := by decide +kernel
theorem dX14_mayBegin_15 : decode cX14_mayBegin 15 = .ok (.if_icmp .ge 7, 3) := by decide +kernel
theorem dX14_mayBegin_18 : decode cX14_mayBegin 18 = .ok (.iconst 1, 1) := by decide +kernel
theorem dX14_mayBegin_19 : decode cX14_mayBegin 19 = .ok (.goto 4, 3) := by decide +kernel
theorem dX14_mayBegin_22 : decode cX14_mayBegin 22 = .ok (.iconst 0, 1) := by decide +kernel
theorem dX14_mayBegin_23 : decode cX14_mayBegin 23 = .ok (.iconst 4, 1) := by decide +kernel
theorem dX14_mayBegin_24 : decode cX14_mayBegin 24 = .ok (.aload_n 0, 1) := by decide +kernel
theorem dX14_mayBegin_25 : decode cX14_mayBegin 25 = .ok (.getfield 128, 3) := by decide +kernel
theorem dX14_mayBegin_28 : decode cX14_mayBegin 28 = .ok (.invokevirtual 172, 3) := by decide +kernel
theorem dX14_mayBegin_31 : decode cX14_mayBegin 31 = .ok (.aload_n 0, 1) := by decide +kernel
theorem dX14_mayBegin_32 : decode cX14_mayBegin 32 = .ok (.getfield 23, 3) := by decide +kernel
theorem dX14_mayBegin_35 : decode cX14_mayBegin 35 = .ok (.getfield 314, 3) := by decide +kernel
theorem dX14_mayBegin_38 : decode cX14_mayBegin 38 = .ok (.aload_n 0, 1) := by decide +kernel
theorem dX14_mayBegin_39 : decode cX14_mayBegin 39 = .ok (.getfield 317, 3) := by decide +kernel
theorem dX14_mayBegin_42 : decode cX14_mayBegin 42 = .ok (.dup2, 1) := by decide +kernel
theorem dX14_mayBegin_43 : decode cX14_mayBegin 43 = .ok (.iaload, 1) := by decide +kernel
theorem dX14_mayBegin_44 : decode cX14_mayBegin 44 = .ok (.iconst 1, 1) := by decide +kernel
theorem dX14_mayBegin_45 : decode cX14_mayBegin 45 = .ok (.iadd, 1) := by decide +kernel
theorem dX14_mayBegin_46 : decode cX14_mayBegin 46 = .ok (.iastore, 1) := by decide +kernel
theorem dX14_mayBegin_47 : decode cX14_mayBegin 47 = .ok (.return_, 1) := by decide +kernel
theorem dX14_hasOnly_0 : decode cX14_hasOnly 0 = .ok (.bipush 8, 2) := by decide +kernel
theorem dX14_hasOnly_2 : decode cX14_hasOnly 2 = .ok (.aload_n 0, 1) := by decide +kernel
theorem dX14_hasOnly_3 : decode cX14_hasOnly 3 = .ok (.getfield 317, 3) := by decide +kernel
theorem dX14_hasOnly_6 : decode cX14_hasOnly 6 = .ok (.imul, 1) := by decide +kernel
theorem dX14_hasOnly_7 : decode cX14_hasOnly 7 = .ok (.istore_n 1, 1) := by decide +kernel
theorem dX14_hasOnly_8 : decode cX14_hasOnly 8 = .ok (.iload_n 1, 1) := by decide +kernel
theorem dX14_hasOnly_9 : decode cX14_hasOnly 9 = .ok (.bipush 8, 2) := by decide +kernel
theorem dX14_hasOnly_11 : decode cX14_hasOnly 11 = .ok (.aload_n 0, 1) := by decide +kernel
theorem dX14_hasOnly_12 : decode cX14_hasOnly 12 = .ok (.getfield 317, 3) := by decide +kernel
theorem dX14_hasOnly_15 : decode cX14_hasOnly 15 = .ok (.imul, 1) := by decide +kernel
theorem dX14_hasOnly_16 : decode cX14_hasOnly 16 = .ok (.aload_n 0, 1) := by decide +kernel
theorem dX14_hasOnly_17 : decode cX14_hasOnly 17 = .ok (.getfield 23, 3) := by decide +kernel
theorem dX14_hasOnly_20 : decode cX14_hasOnly 20 = .ok (.getfield 428, 3) := by decide +kernel
theorem dX14_hasOnly_23 : decode cX14_hasOnly 23 = .ok (.aload_n 0, 1) := by decide +kernel
theorem dX14_hasOnly_24 : decode cX14_hasOnly 24 = .ok (.getfield 317, 3) := by decide +kernel
theorem dX14_hasOnly_27 : decode cX14_hasOnly 27 = .ok (.iaload, 1) := by decide +kernel
theorem dX14_hasOnly_28 : decode cX14_hasOnly 28 = .ok (.iadd, 1) := by decide +kernel
theorem dX14_hasOnly_29 : decode cX14_hasOnly 29 = .ok (.if_icmp .ge 25, 3) := by decide +kernel
theorem dX14_hasOnly_32 : decode cX14_hasOnly 32 = .ok (.aload_n 0, 1) := by decide +kernel
theorem dX14_hasOnly_33 : decode cX14_hasOnly 33 = .ok (.getfield 23, 3) := by decide +kernel
theorem dX14_hasOnly_36 : decode cX14_hasOnly 36 = .ok (.getfield 431, 3) := by decide +kernel
theorem dX14_hasOnly_39 : decode cX14_hasOnly 39 = .ok (.iload_n 1, 1) := by decide +kernel
theorem dX14_hasOnly_40 : decode cX14_hasOnly 40 = .ok (.iaload, 1) := by decide +kernel
theorem dX14_hasOnly_41 : decode cX14_hasOnly 41 = .ok (.bipush 6, 2) := by decide +kernel
theorem dX14_hasOnly_43 : decode cX14_hasOnly 43 = .ok (.if_icmp .ne 5, 3) := by decide +kernel
theorem dX14_hasOnly_46 : decode cX14_hasOnly 46 = .ok (.iconst 1, 1) := by decide +kernel
theorem dX14_hasOnly_47 : decode cX14_hasOnly 47 = .ok (.ireturn, 1) := by decide +kernel
theorem dX14_hasOnly_48 : decode cX14_hasOnly 48 = .ok (.iinc 1 1, 3) := by decide +kernel
theorem dX14_hasOnly_51 : decode cX14_hasOnly 51 = .ok (.goto (-43), 3) := by decide +kernel
theorem dX14_hasOnly_54 : decode cX14_hasOnly 54 = .ok (.iconst 0, 1) := by decide +kernel
theorem dX14_hasOnly_55 : decode cX14_hasOnly 55 = .ok (.ireturn, 1) := by decide +kernel
theorem dX14_classOf_0 : decode cX14_classOf 0 = .ok (.iconst 0, 1) := by decide +kernel
theorem dX14_classOf_1 : decode cX14_classOf 1 = .ok (.istore 5, 2) := by decide +kernel
theorem dX14_classOf_3 : decode cX14_classOf 3 = .ok (.iload 5, 2) := by decide +kernel
theorem dX14_classOf_5 : decode cX14_classOf 5 = .ok (.aload_n 0, 1) := by decide +kernel
theorem dX14_classOf_6 : decode cX14_classOf 6 = .ok (.getfield 23, 3) := by decide +kernel
theorem dX14_classOf_9 : decode cX14_classOf 9 = .ok (.getfield 499, 3) := by decide +kernel
theorem dX14_classOf_12 : decode cX14_classOf 12 = .ok (.if_icmp .ge 42, 3) := by decide +kernel
theorem dX14_classOf_15 : decode cX14_classOf 15 = .ok (.aload_n 0, 1) := by decide +kernel
theorem dX14_classOf_16 : decode cX14_classOf 16 = .ok (.getfield 23, 3) := by decide +kernel
theorem dX14_classOf_19 : decode cX14_classOf 19 = .ok (.getfield 502, 3) := by decide +kernel
theorem dX14_classOf_22 : decode cX14_classOf 22 = .ok (.iload 5, 2) := by decide +kernel
theorem dX14_classOf_24 : decode cX14_classOf 24 = .ok (.laload, 1) := by decide +kernel
theorem dX14_classOf_25 : decode cX14_classOf 25 = .ok (.lload_n 1, 1) := by decide +kernel
theorem dX14_classOf_26 : decode cX14_classOf 26 = .ok (.lcmp, 1) := by decide +kernel
theorem dX14_classOf_27 : decode cX14_classOf 27 = .ok (.ifCond .ne 21, 3) := by decide +kernel
theorem dX14_classOf_30 : decode cX14_classOf 30 = .ok (.aload_n 0, 1) := by decide +kernel
theorem dX14_classOf_31 : decode cX14_classOf 31 = .ok (.getfield 23, 3) := by decide +kernel
theorem dX14_classOf_34 : decode cX14_classOf 34 = .ok (.getfield 505, 3) := by decide +kernel
theorem dX14_classOf_37 : decode cX14_classOf 37 = .ok (.iload 5, 2) := by decide +kernel
theorem dX14_classOf_39 : decode cX14_classOf 39 = .ok (.laload, 1) := by decide +kernel
theorem dX14_classOf_40 : decode cX14_classOf 40 = .ok (.lload_n 3, 1) := by decide +kernel
theorem dX14_classOf_41 : decode cX14_classOf 41 = .ok (.lcmp, 1) := by decide +kernel
theorem dX14_classOf_42 : decode cX14_classOf 42 = .ok (.ifCond .ne 6, 3) := by decide +kernel
theorem dX14_classOf_45 : decode cX14_classOf 45 = .ok (.iload 5, 2) := by decide +kernel
theorem dX14_classOf_47 : decode cX14_classOf 47 = .ok (.ireturn, 1) := by decide +kernel
theorem dX14_classOf_48 : decode cX14_classOf 48 = .ok (.iinc 5 1, 3) := by decide +kernel
theorem dX14_classOf_51 : decode cX14_classOf 51 = .ok (.goto (-48), 3) := by decide +kernel
theorem dX14_classOf_54 : decode cX14_classOf 54 = .ok (.iconst (-1), 1) := by decide +kernel
theorem dX14_classOf_55 : decode cX14_classOf 55 = .ok (.ireturn, 1) := by decide +kernel
theorem dX14_feed_0 : decode cX14_feed 0 = .ok (.aload_n 0, 1) := by decide +kernel
theorem dX14_feed_1 : decode cX14_feed 1 = .ok (.getfield 523, 3) := by decide +kernel
theorem dX14_feed_4 : decode cX14_feed 4 = .ok (.bipush 20, 2) := by decide +kernel
theorem dX14_feed_6 : decode cX14_feed 6 = .ok (.iadd, 1) := by decide +kernel
theorem dX14_feed_7 : decode cX14_feed 7 = .ok (.sipush 4000, 3) := by decide +kernel
theorem dX14_feed_10 : decode cX14_feed 10 = .ok (.if_icmp .le 6, 3) := by decide +kernel
theorem dX14_feed_13 : decode cX14_feed 13 = .ok (.bipush (-3), 2) := by decide +kernel
theorem dX14_feed_15 : decode cX14_feed 15 = .ok (.ireturn, 1) := by decide +kernel
theorem dX14_feed_16 : decode cX14_feed 16 = .ok (.iconst 0, 1) := by decide +kernel
theorem dX14_feed_17 : decode cX14_feed 17 = .ok (.istore 6, 2) := by decide +kernel
theorem dX14_feed_19 : decode cX14_feed 19 = .ok (.iload 6, 2) := by decide +kernel
theorem dX14_feed_21 : decode cX14_feed 21 = .ok (.iconst 5, 1) := by decide +kernel
theorem dX14_feed_22 : decode cX14_feed 22 = .ok (.if_icmp .ge 93, 3) := by decide +kernel
theorem dX14_feed_25 : decode cX14_feed 25 = .ok (.iload 6, 2) := by decide +kernel
theorem dX14_feed_27 : decode cX14_feed 27 = .ok (.ifCond .ne 7, 3) := by decide +kernel
theorem dX14_feed_30 : decode cX14_feed 30 = .ok (.iload_n 1, 1) := by decide +kernel
theorem dX14_feed_31 : decode cX14_feed 31 = .ok (.goto 36, 3) := by decide +kernel
theorem dX14_feed_34 : decode cX14_feed 34 = .ok (.iload 6, 2) := by decide +kernel
theorem dX14_feed_36 : decode cX14_feed 36 = .ok (.iconst 1, 1) := by decide +kernel
theorem dX14_feed_37 : decode cX14_feed 37 = .ok (.if_icmp .ne 7, 3) := by decide +kernel
theorem dX14_feed_40 : decode cX14_feed 40 = .ok (.iload_n 2, 1) := by decide +kernel
theorem dX14_feed_41 : decode cX14_feed 41 = .ok (.goto 26, 3) := by decide +kernel
theorem dX14_feed_44 : decode cX14_feed 44 = .ok (.iload 6, 2) := by decide +kernel
theorem dX14_feed_46 : decode cX14_feed 46 = .ok (.iconst 2, 1) := by decide +kernel
theorem dX14_feed_47 : decode cX14_feed 47 = .ok (.if_icmp .ne 7, 3) := by decide +kernel
theorem dX14_feed_50 : decode cX14_feed 50 = .ok (.iload_n 3, 1) := by decide +kernel
theorem dX14_feed_51 : decode cX14_feed 51 = .ok (.goto 16, 3) := by decide +kernel
theorem dX14_feed_54 : decode cX14_feed 54 = .ok (.iload 6, 2) := by decide +kernel
theorem dX14_feed_56 : decode cX14_feed 56 = .ok (.iconst 3, 1) := by decide +kernel
theorem dX14_feed_57 : decode cX14_feed 57 = .ok (.if_icmp .ne 8, 3) := by decide +kernel
theorem dX14_feed_60 : decode cX14_feed 60 = .ok (.iload 4, 2) := by decide +kernel
theorem dX14_feed_62 : decode cX14_feed 62 = .ok (.goto 5, 3) := by decide +kernel
theorem dX14_feed_65 : decode cX14_feed 65 = .ok (.iload 5, 2) := by decide +kernel
theorem dX14_feed_67 : decode cX14_feed 67 = .ok (.istore 7, 2) := by decide +kernel
theorem dX14_feed_69 : decode cX14_feed 69 = .ok (.bipush 24, 2) := by decide +kernel
theorem dX14_feed_71 : decode cX14_feed 71 = .ok (.istore 8, 2) := by decide +kernel
theorem dX14_feed_73 : decode cX14_feed 73 = .ok (.iload 8, 2) := by decide +kernel
theorem dX14_feed_75 : decode cX14_feed 75 = .ok (.ifCond .lt 34, 3) := by decide +kernel
theorem dX14_feed_78 : decode cX14_feed 78 = .ok (.aload_n 0, 1) := by decide +kernel
theorem dX14_feed_79 : decode cX14_feed 79 = .ok (.getfield 26, 3) := by decide +kernel
theorem dX14_feed_82 : decode cX14_feed 82 = .ok (.aload_n 0, 1) := by decide +kernel
theorem dX14_feed_83 : decode cX14_feed 83 = .ok (.getfield 523, 3) := by decide +kernel
theorem dX14_feed_86 : decode cX14_feed 86 = .ok (.iload 7, 2) := by decide +kernel
theorem dX14_feed_88 : decode cX14_feed 88 = .ok (.iload 8, 2) := by decide +kernel
theorem dX14_feed_90 : decode cX14_feed 90 = .ok (.ishr, 1) := by decide +kernel
theorem dX14_feed_91 : decode cX14_feed 91 = .ok (.i2b, 1) := by decide +kernel
theorem dX14_feed_92 : decode cX14_feed 92 = .ok (.bastore, 1) := by decide +kernel
theorem dX14_feed_93 : decode cX14_feed 93 = .ok (.aload_n 0, 1) := by decide +kernel
theorem dX14_feed_94 : decode cX14_feed 94 = .ok (.dup, 1) := by decide +kernel
theorem dX14_feed_95 : decode cX14_feed 95 = .ok (.getfield 523, 3) := by decide +kernel
theorem dX14_feed_98 : decode cX14_feed 98 = .ok (.iconst 1, 1) := by decide +kernel
theorem dX14_feed_99 : decode cX14_feed 99 = .ok (.iadd, 1) := by decide +kernel
theorem dX14_feed_100 : decode cX14_feed 100 = .ok (.putfield 523, 3) := by decide +kernel
theorem dX14_feed_103 : decode cX14_feed 103 = .ok (.iinc 8 (-8), 3) := by decide +kernel
theorem dX14_feed_106 : decode cX14_feed 106 = .ok (.goto (-33), 3) := by decide +kernel
theorem dX14_feed_109 : decode cX14_feed 109 = .ok (.iinc 6 1, 3) := by decide +kernel
theorem dX14_feed_112 : decode cX14_feed 112 = .ok (.goto (-93), 3) := by decide +kernel
theorem dX14_feed_115 : decode cX14_feed 115 = .ok (.aload_n 0, 1) := by decide +kernel
theorem dX14_feed_116 : decode cX14_feed 116 = .ok (.getfield 523, 3) := by decide +kernel
theorem dX14_feed_119 : decode cX14_feed 119 = .ok (.ireturn, 1) := by decide +kernel
theorem dX14_end_0 : decode cX14_end 0 = .ok (.iload_n 1, 1) := by decide +kernel
theorem dX14_end_1 : decode cX14_end 1 = .ok (.ifCond .lt 11, 3) := by decide +kernel
theorem dX14_end_4 : decode cX14_end 4 = .ok (.iload_n 1, 1) := by decide +kernel
theorem dX14_end_5 : decode cX14_end 5 = .ok (.aload_n 0, 1) := by decide +kernel
theorem dX14_end_6 : decode cX14_end 6 = .ok (.getfield 523, 3) := by decide +kernel
theorem dX14_end_9 : decode cX14_end 9 = .ok (.if_icmp .le 5, 3) := by decide +kernel
theorem dX14_end_12 : decode cX14_end 12 = .ok (.iconst (-1), 1) := by decide +kernel
theorem dX14_end_13 : decode cX14_end 13 = .ok (.ireturn, 1) := by decide +kernel
theorem dX14_end_14 : decode cX14_end 14 = .ok (.aload_n 0, 1) := by decide +kernel
theorem dX14_end_15 : decode cX14_end 15 = .ok (.iload_n 1, 1) := by decide +kernel
theorem dX14_end_16 : decode cX14_end 16 = .ok (.putfield 523, 3) := by decide +kernel
theorem dX14_end_19 : decode cX14_end 19 = .ok (.iload_n 1, 1) := by decide +kernel
theorem dX14_end_20 : decode cX14_end 20 = .ok (.ireturn, 1) := by decide +kernel
theorem dX14_fault_0 : decode cX14_fault 0 = .ok (.iload_n 1, 1) := by decide +kernel
theorem dX14_fault_1 : decode cX14_fault 1 = .ok (.ifCond .ne 10, 3) := by decide +kernel
theorem dX14_fault_4 : decode cX14_fault 4 = .ok (.aload_n 0, 1) := by decide +kernel
theorem dX14_fault_5 : decode cX14_fault 5 = .ok (.getfield 102, 3) := by decide +kernel
theorem dX14_fault_8 : decode cX14_fault 8 = .ok (.goto 16, 3) := by decide +kernel
theorem dX14_fault_11 : decode cX14_fault 11 = .ok (.iload_n 1, 1) := by decide +kernel
theorem dX14_fault_12 : decode cX14_fault 12 = .ok (.iconst 1, 1) := by decide +kernel
theorem dX14_fault_13 : decode cX14_fault 13 = .ok (.if_icmp .ne 10, 3) := by decide +kernel
theorem dX14_fault_16 : decode cX14_fault 16 = .ok (.aload_n 0, 1) := by decide +kernel
theorem dX14_fault_17 : decode cX14_fault 17 = .ok (.getfield 30, 3) := by decide +kernel
theorem dX14_fault_20 : decode cX14_fault 20 = .ok (.goto 4, 3) := by decide +kernel
theorem dX14_fault_23 : decode cX14_fault 23 = .ok (.iconst (-1), 1) := by decide +kernel
theorem dX14_fault_24 : decode cX14_fault 24 = .ok (.ireturn, 1) := by decide +kernel
theorem dX14_isClass_0 : decode cX14_isClass 0 = .ok (.iload_n 1, 1) := by decide +kernel
theorem dX14_isClass_1 : decode cX14_isClass 1 = .ok (.i2l, 1) := by decide +kernel
theorem dX14_isClass_2 : decode cX14_isClass 2 = .ok (.lconst 0, 1) := by decide +kernel
theorem dX14_isClass_3 : decode cX14_isClass 3 = .ok (.aload_n 0, 1) := by decide +kernel
theorem dX14_isClass_4 : decode cX14_isClass 4 = .ok (.getfield 19, 3) := by decide +kernel
theorem dX14_isClass_7 : decode cX14_isClass 7 = .ok (.getfield 499, 3) := by decide +kernel
theorem dX14_isClass_10 : decode cX14_isClass 10 = .ok (.iconst 1, 1) := by decide +kernel
theorem dX14_isClass_11 : decode cX14_isClass 11 = .ok (.isub, 1) := by decide +kernel
theorem dX14_isClass_12 : decode cX14_isClass 12 = .ok (.i2l, 1) := by decide +kernel
theorem dX14_isClass_13 : decode cX14_isClass 13 = .ok (.invokestatic 395, 3) := by decide +kernel
theorem dX14_isClass_16 : decode cX14_isClass 16 = .ok (.ireturn, 1) := by decide +kernel
theorem dX14_about_0 : decode cX14_about 0 = .ok (.aload_n 0, 1) := by decide +kernel
theorem dX14_about_1 : decode cX14_about 1 = .ok (.iload_n 1, 1) := by decide +kernel
theorem dX14_about_2 : decode cX14_about 2 = .ok (.invokevirtual 544, 3) := by decide +kernel
theorem dX14_about_5 : decode cX14_about 5 = .ok (.ifCond .ne 5, 3) := by decide +kernel
theorem dX14_about_8 : decode cX14_about 8 = .ok (.iconst (-1), 1) := by decide +kernel
theorem dX14_about_9 : decode cX14_about 9 = .ok (.ireturn, 1) := by decide +kernel
theorem dX14_about_10 : decode cX14_about 10 = .ok (.iload_n 2, 1) := by decide +kernel
theorem dX14_about_11 : decode cX14_about 11 = .ok (.tableswitch 97 0 5 #[37, 47, 57, 67, 77, 87], 37) := by decide +kernel
theorem dX14_about_48 : decode cX14_about 48 = .ok (.aload_n 0, 1) := by decide +kernel
theorem dX14_about_49 : decode cX14_about 49 = .ok (.getfield 19, 3) := by decide +kernel
theorem dX14_about_52 : decode cX14_about 52 = .ok (.getfield 297, 3) := by decide +kernel
theorem dX14_about_55 : decode cX14_about 55 = .ok (.iload_n 1, 1) := by decide +kernel
theorem dX14_about_56 : decode cX14_about 56 = .ok (.iaload, 1) := by decide +kernel
theorem dX14_about_57 : decode cX14_about 57 = .ok (.ireturn, 1) := by decide +kernel
theorem dX14_about_58 : decode cX14_about 58 = .ok (.aload_n 0, 1) := by decide +kernel
theorem dX14_about_59 : decode cX14_about 59 = .ok (.getfield 19, 3) := by decide +kernel
theorem dX14_about_62 : decode cX14_about 62 = .ok (.getfield 390, 3) := by decide +kernel
theorem dX14_about_65 : decode cX14_about 65 = .ok (.iload_n 1, 1) := by decide +kernel
theorem dX14_about_66 : decode cX14_about 66 = .ok (.iaload, 1) := by decide +kernel
theorem dX14_about_67 : decode cX14_about 67 = .ok (.ireturn, 1) := by decide +kernel
theorem dX14_about_68 : decode cX14_about 68 = .ok (.aload_n 0, 1) := by decide +kernel
theorem dX14_about_69 : decode cX14_about 69 = .ok (.getfield 19, 3) := by decide +kernel
theorem dX14_about_72 : decode cX14_about 72 = .ok (.getfield 399, 3) := by decide +kernel
theorem dX14_about_75 : decode cX14_about 75 = .ok (.iload_n 1, 1) := by decide +kernel
theorem dX14_about_76 : decode cX14_about 76 = .ok (.iaload, 1) := by decide +kernel
theorem dX14_about_77 : decode cX14_about 77 = .ok (.ireturn, 1) := by decide +kernel
theorem dX14_about_78 : decode cX14_about 78 = .ok (.aload_n 0, 1) := by decide +kernel
theorem dX14_about_79 : decode cX14_about 79 = .ok (.getfield 19, 3) := by decide +kernel
theorem dX14_about_82 : decode cX14_about 82 = .ok (.getfield 456, 3) := by decide +kernel
theorem dX14_about_85 : decode cX14_about 85 = .ok (.iload_n 1, 1) := by decide +kernel
theorem dX14_about_86 : decode cX14_about 86 = .ok (.iaload, 1) := by decide +kernel
theorem dX14_about_87 : decode cX14_about 87 = .ok (.ireturn, 1) := by decide +kernel
theorem dX14_about_88 : decode cX14_about 88 = .ok (.aload_n 0, 1) := by decide +kernel
theorem dX14_about_89 : decode cX14_about 89 = .ok (.getfield 19, 3) := by decide +kernel
theorem dX14_about_92 : decode cX14_about 92 = .ok (.getfield 419, 3) := by decide +kernel
theorem dX14_about_95 : decode cX14_about 95 = .ok (.iload_n 1, 1) := by decide +kernel
theorem dX14_about_96 : decode cX14_about 96 = .ok (.iaload, 1) := by decide +kernel
theorem dX14_about_97 : decode cX14_about 97 = .ok (.ireturn, 1) := by decide +kernel
theorem dX14_about_98 : decode cX14_about 98 = .ok (.aload_n 0, 1) := by decide +kernel
theorem dX14_about_99 : decode cX14_about 99 = .ok (.getfield 19, 3) := by decide +kernel
theorem dX14_about_102 : decode cX14_about 102 = .ok (.getfield 508, 3) := by decide +kernel
theorem dX14_about_105 : decode cX14_about 105 = .ok (.iload_n 1, 1) := by decide +kernel
theorem dX14_about_106 : decode cX14_about 106 = .ok (.iaload, 1) := by decide +kernel
theorem dX14_about_107 : decode cX14_about 107 = .ok (.ireturn, 1) := by decide +kernel
theorem dX14_about_108 : decode cX14_about 108 = .ok (.iconst (-1), 1) := by decide +kernel
theorem dX14_about_109 : decode cX14_about 109 = .ok (.ireturn, 1) := by decide +kernel
theorem dX14_member_0 : decode cX14_member 0 = .ok (.aload_n 0, 1) := by decide +kernel
theorem dX14_member_1 : decode cX14_member 1 = .ok (.iload_n 1, 1) := by decide +kernel
theorem dX14_member_2 : decode cX14_member 2 = .ok (.invokevirtual 544, 3) := by decide +kernel
theorem dX14_member_5 : decode cX14_member 5 = .ok (.ifCond .eq 24, 3) := by decide +kernel
theorem dX14_member_8 : decode cX14_member 8 = .ok (.iload_n 2, 1) := by decide +kernel
theorem dX14_member_9 : decode cX14_member 9 = .ok (.i2l, 1) := by decide +kernel
theorem dX14_member_10 : decode cX14_member 10 = .ok (.lconst 0, 1) := by decide +kernel
theorem dX14_member_11 : decode cX14_member 11 = .ok (.aload_n 0, 1) := by decide +kernel
theorem dX14_member_12 : decode cX14_member 12 = .ok (.getfield 19, 3) := by decide +kernel
theorem dX14_member_15 : decode cX14_member 15 = .ok (.getfield 456, 3) := by decide +kernel
theorem dX14_member_18 : decode cX14_member 18 = .ok (.iload_n 1, 1) := by decide +kernel
theorem dX14_member_19 : decode cX14_member 19 = .ok (.iaload, 1) := by decide +kernel
theorem dX14_member_20 : decode cX14_member 20 = .ok (.iconst 1, 1) := by decide +kernel
theorem dX14_member_21 : decode cX14_member 21 = .ok (.isub, 1) := by decide +kernel
theorem dX14_member_22 : decode cX14_member 22 = .ok (.i2l, 1) := by decide +kernel
theorem dX14_member_23 : decode cX14_member 23 = .ok (.invokestatic 395, 3) := by decide +kernel
theorem dX14_member_26 : decode cX14_member 26 = .ok (.ifCond .ne 5, 3) := by decide +kernel
theorem dX14_member_29 : decode cX14_member 29 = .ok (.iconst (-1), 1) := by decide +kernel
theorem dX14_member_30 : decode cX14_member 30 = .ok (.ireturn, 1) := by decide +kernel
theorem dX14_member_31 : decode cX14_member 31 = .ok (.aload_n 0, 1) := by decide +kernel
theorem dX14_member_32 : decode cX14_member 32 = .ok (.getfield 19, 3) := by decide +kernel
theorem dX14_member_35 : decode cX14_member 35 = .ok (.getfield 477, 3) := by decide +kernel
theorem dX14_member_38 : decode cX14_member 38 = .ok (.bipush 12, 2) := by decide +kernel
theorem dX14_member_40 : decode cX14_member 40 = .ok (.iload_n 1, 1) := by decide +kernel
theorem dX14_member_41 : decode cX14_member 41 = .ok (.imul, 1) := by decide +kernel
theorem dX14_member_42 : decode cX14_member 42 = .ok (.iload_n 2, 1) := by decide +kernel
theorem dX14_member_43 : decode cX14_member 43 = .ok (.iadd, 1) := by decide +kernel
theorem dX14_member_44 : decode cX14_member 44 = .ok (.iaload, 1) := by decide +kernel
theorem dX14_member_45 : decode cX14_member 45 = .ok (.istore 4, 2) := by decide +kernel
theorem dX14_member_47 : decode cX14_member 47 = .ok (.iload_n 3, 1) := by decide +kernel
theorem dX14_member_48 : decode cX14_member 48 = .ok (.tableswitch 168 0 5 #[40, 51, 62, 73, 138, 157], 40) := by decide +kernel
theorem dX14_member_88 : decode cX14_member 88 = .ok (.aload_n 0, 1) := by decide +kernel
theorem dX14_member_89 : decode cX14_member 89 = .ok (.getfield 19, 3) := by decide +kernel
theorem dX14_member_92 : decode cX14_member 92 = .ok (.getfield 453, 3) := by decide +kernel
theorem dX14_member_95 : decode cX14_member 95 = .ok (.iload 4, 2) := by decide +kernel
theorem dX14_member_97 : decode cX14_member 97 = .ok (.iaload, 1) := by decide +kernel
theorem dX14_member_98 : decode cX14_member 98 = .ok (.ireturn, 1) := by decide +kernel
theorem dX14_member_99 : decode cX14_member 99 = .ok (.aload_n 0, 1) := by decide +kernel
theorem dX14_member_100 : decode cX14_member 100 = .ok (.getfield 19, 3) := by decide +kernel
theorem dX14_member_103 : decode cX14_member 103 = .ok (.getfield 324, 3) := by decide +kernel
theorem dX14_member_106 : decode cX14_member 106 = .ok (.iload 4, 2) := by decide +kernel
theorem dX14_member_108 : decode cX14_member 108 = .ok (.iaload, 1) := by decide +kernel
theorem dX14_member_109 : decode cX14_member 109 = .ok (.ireturn, 1) := by decide +kernel
theorem dX14_member_110 : decode cX14_member 110 = .ok (.aload_n 0, 1) := by decide +kernel
theorem dX14_member_111 : decode cX14_member 111 = .ok (.getfield 19, 3) := by decide +kernel
theorem dX14_member_114 : decode cX14_member 114 = .ok (.getfield 314, 3) := by decide +kernel
theorem dX14_member_117 : decode cX14_member 117 = .ok (.iload 4, 2) := by decide +kernel
theorem dX14_member_119 : decode cX14_member 119 = .ok (.iaload, 1) := by decide +kernel
theorem dX14_member_120 : decode cX14_member 120 = .ok (.ireturn, 1) := by decide +kernel
theorem dX14_member_121 : decode cX14_member 121 = .ok (.iconst 0, 1) := by decide +kernel
theorem dX14_member_122 : decode cX14_member 122 = .ok (.istore 5, 2) := by decide +kernel
theorem dX14_member_124 : decode cX14_member 124 = .ok (.iconst 0, 1) := by decide +kernel
theorem dX14_member_125 : decode cX14_member 125 = .ok (.istore 6, 2) := by decide +kernel
theorem dX14_member_127 : decode cX14_member 127 = .ok (.iload 6, 2) := by decide +kernel
theorem dX14_member_129 : decode cX14_member 129 = .ok (.aload_n 0, 1) := by decide +kernel
theorem dX14_member_130 : decode cX14_member 130 = .ok (.getfield 19, 3) := by decide +kernel
theorem dX14_member_133 : decode cX14_member 133 = .ok (.getfield 330, 3) := by decide +kernel
theorem dX14_member_136 : decode cX14_member 136 = .ok (.if_icmp .ge 47, 3) := by decide +kernel
theorem dX14_member_139 : decode cX14_member 139 = .ok (.iload 5, 2) := by decide +kernel
theorem dX14_member_141 : decode cX14_member 141 = .ok (.aload_n 0, 1) := by decide +kernel
theorem dX14_member_142 : decode cX14_member 142 = .ok (.getfield 19, 3) := by decide +kernel
theorem dX14_member_145 : decode cX14_member 145 = .ok (.getfield 357, 3) := by decide +kernel
theorem dX14_member_148 : decode cX14_member 148 = .ok (.iload 6, 2) := by decide +kernel
theorem dX14_member_150 : decode cX14_member 150 = .ok (.iaload, 1) := by decide +kernel
theorem dX14_member_151 : decode cX14_member 151 = .ok (.iload 4, 2) := by decide +kernel
theorem dX14_member_153 : decode cX14_member 153 = .ok (.if_icmp .ne 20, 3) := by decide +kernel
theorem dX14_member_156 : decode cX14_member 156 = .ok (.aload_n 0, 1) := by decide +kernel
theorem dX14_member_157 : decode cX14_member 157 = .ok (.getfield 19, 3) := by decide +kernel
theorem dX14_member_160 : decode cX14_member 160 = .ok (.getfield 360, 3) := by decide +kernel
theorem dX14_member_163 : decode cX14_member 163 = .ok (.iload 6, 2) := by decide +kernel
theorem dX14_member_165 : decode cX14_member 165 = .ok (.baload, 1) := by decide +kernel
theorem dX14_member_166 : decode cX14_member 166 = .ok (.ifCond .eq 7, 3) := by decide +kernel
theorem dX14_member_169 : decode cX14_member 169 = .ok (.iconst 1, 1) := by decide +kernel
theorem dX14_member_170 : decode cX14_member 170 = .ok (.goto 4, 3) := by decide +kernel
theorem dX14_member_173 : decode cX14_member 173 = .ok (.iconst 0, 1) := by decide +kernel
theorem dX14_member_174 : decode cX14_member 174 = .ok (.iadd, 1) := by decide +kernel
theorem dX14_member_175 : decode cX14_member 175 = .ok (.istore 5, 2) := by decide +kernel
theorem dX14_member_177 : decode cX14_member 177 = .ok (.iinc 6 1, 3) := by decide +kernel
theorem dX14_member_180 : decode cX14_member 180 = .ok (.goto (-53), 3) := by decide +kernel
theorem dX14_member_183 : decode cX14_member 183 = .ok (.iload 5, 2) := by decide +kernel
theorem dX14_member_185 : decode cX14_member 185 = .ok (.ireturn, 1) := by decide +kernel
theorem dX14_member_186 : decode cX14_member 186 = .ok (.aload_n 0, 1) := by decide +kernel
theorem dX14_member_187 : decode cX14_member 187 = .ok (.getfield 19, 3) := by decide +kernel
theorem dX14_member_190 : decode cX14_member 190 = .ok (.getfield 306, 3) := by decide +kernel
theorem dX14_member_193 : decode cX14_member 193 = .ok (.iload 4, 2) := by decide +kernel
theorem dX14_member_195 : decode cX14_member 195 = .ok (.baload, 1) := by decide +kernel
theorem dX14_member_196 : decode cX14_member 196 = .ok (.ifCond .eq 7, 3) := by decide +kernel
theorem dX14_member_199 : decode cX14_member 199 = .ok (.iconst 1, 1) := by decide +kernel
theorem dX14_member_200 : decode cX14_member 200 = .ok (.goto 4, 3) := by decide +kernel
theorem dX14_member_203 : decode cX14_member 203 = .ok (.iconst 0, 1) := by decide +kernel
theorem dX14_member_204 : decode cX14_member 204 = .ok (.ireturn, 1) := by decide +kernel
theorem dX14_member_205 : decode cX14_member 205 = .ok (.aload_n 0, 1) := by decide +kernel
theorem dX14_member_206 : decode cX14_member 206 = .ok (.getfield 19, 3) := by decide +kernel
theorem dX14_member_209 : decode cX14_member 209 = .ok (.getfield 471, 3) := by decide +kernel
theorem dX14_member_212 : decode cX14_member 212 = .ok (.iload 4, 2) := by decide +kernel
theorem dX14_member_214 : decode cX14_member 214 = .ok (.iaload, 1) := by decide +kernel
theorem dX14_member_215 : decode cX14_member 215 = .ok (.ireturn, 1) := by decide +kernel
theorem dX14_member_216 : decode cX14_member 216 = .ok (.iconst (-1), 1) := by decide +kernel
theorem dX14_member_217 : decode cX14_member 217 = .ok (.ireturn, 1) := by decide +kernel
theorem dX14_ends_0 : decode cX14_ends 0 = .ok (.aload_n 0, 1) := by decide +kernel
theorem dX14_ends_1 : decode cX14_ends 1 = .ok (.iload_n 1, 1) := by decide +kernel
theorem dX14_ends_2 : decode cX14_ends 2 = .ok (.putfield 547, 3) := by decide +kernel
theorem dX14_ends_5 : decode cX14_ends 5 = .ok (.aload_n 0, 1) := by decide +kernel
theorem dX14_ends_6 : decode cX14_ends 6 = .ok (.getfield 10, 3) := by decide +kernel
theorem dX14_ends_9 : decode cX14_ends 9 = .ok (.athrow, 1) := by decide +kernel
theorem dX14_throwsWord_0 : decode cX14_throwsWord 0 = .ok (.aload_n 0, 1) := by decide +kernel
theorem dX14_throwsWord_1 : decode cX14_throwsWord 1 = .ok (.lload_n 1, 1) := by decide +kernel
theorem dX14_throwsWord_2 : decode cX14_throwsWord 2 = .ok (.putfield 550, 3) := by decide +kernel
theorem dX14_throwsWord_5 : decode cX14_throwsWord 5 = .ok (.aload_n 0, 1) := by decide +kernel
theorem dX14_throwsWord_6 : decode cX14_throwsWord 6 = .ok (.lload_n 3, 1) := by decide +kernel
theorem dX14_throwsWord_7 : decode cX14_throwsWord 7 = .ok (.putfield 553, 3) := by decide +kernel
theorem dX14_throwsWord_10 : decode cX14_throwsWord 10 = .ok (.aload_n 0, 1) := by decide +kernel
theorem dX14_throwsWord_11 : decode cX14_throwsWord 11 = .ok (.lload_n 1, 1) := by decide +kernel
theorem dX14_throwsWord_12 : decode cX14_throwsWord 12 = .ok (.putfield 556, 3) := by decide +kernel
theorem dX14_throwsWord_15 : decode cX14_throwsWord 15 = .ok (.aload_n 0, 1) := by decide +kernel
theorem dX14_throwsWord_16 : decode cX14_throwsWord 16 = .ok (.lload_n 3, 1) := by decide +kernel
theorem dX14_throwsWord_17 : decode cX14_throwsWord 17 = .ok (.putfield 559, 3) := by decide +kernel
theorem dX14_throwsWord_20 : decode cX14_throwsWord 20 = .ok (.aload_n 0, 1) := by decide +kernel
theorem dX14_throwsWord_21 : decode cX14_throwsWord 21 = .ok (.iconst 1, 1) := by decide +kernel
theorem dX14_throwsWord_22 : decode cX14_throwsWord 22 = .ok (.invokevirtual 562, 3) := by decide +kernel
theorem dX14_throwsWord_25 : decode cX14_throwsWord 25 = .ok (.return_, 1) := by decide +kernel
theorem dX14_untold_0 : decode cX14_untold 0 = .ok (.aload_n 0, 1) := by decide +kernel
theorem dX14_untold_1 : decode cX14_untold 1 = .ok (.iconst 0, 1) := by decide +kernel
theorem dX14_untold_2 : decode cX14_untold 2 = .ok (.putfield 618, 3) := by decide +kernel
theorem dX14_untold_5 : decode cX14_untold 5 = .ok (.aload_n 0, 1) := by decide +kernel
theorem dX14_untold_6 : decode cX14_untold 6 = .ok (.iconst 0, 1) := by decide +kernel
theorem dX14_untold_7 : decode cX14_untold 7 = .ok (.putfield 621, 3) := by decide +kernel
theorem dX14_untold_10 : decode cX14_untold 10 = .ok (.aload_n 0, 1) := by decide +kernel
theorem dX14_untold_11 : decode cX14_untold 11 = .ok (.lconst 0, 1) := by decide +kernel
theorem dX14_untold_12 : decode cX14_untold 12 = .ok (.putfield 556, 3) := by decide +kernel
theorem dX14_untold_15 : decode cX14_untold 15 = .ok (.aload_n 0, 1) := by decide +kernel
theorem dX14_untold_16 : decode cX14_untold 16 = .ok (.lconst 0, 1) := by decide +kernel
theorem dX14_untold_17 : decode cX14_untold 17 = .ok (.putfield 559, 3) := by decide +kernel
theorem dX14_untold_20 : decode cX14_untold 20 = .ok (.aload_n 0, 1) := by decide +kernel
theorem dX14_untold_21 : decode cX14_untold 21 = .ok (.invokevirtual 96, 3) := by decide +kernel
theorem dX14_untold_24 : decode cX14_untold 24 = .ok (.return_, 1) := by decide +kernel
theorem dX14_nothingTold_0 : decode cX14_nothingTold 0 = .ok (.iconst 0, 1) := by decide +kernel
theorem dX14_nothingTold_1 : decode cX14_nothingTold 1 = .ok (.istore_n 1, 1) := by decide +kernel
theorem dX14_nothingTold_2 : decode cX14_nothingTold 2 = .ok (.iload_n 1, 1) := by decide +kernel
theorem dX14_nothingTold_3 : decode cX14_nothingTold 3 = .ok (.iconst 4, 1) := by decide +kernel
theorem dX14_nothingTold_4 : decode cX14_nothingTold 4 = .ok (.if_icmp .ge 16, 3) := by decide +kernel
theorem dX14_nothingTold_7 : decode cX14_nothingTold 7 = .ok (.aload_n 0, 1) := by decide +kernel
theorem dX14_nothingTold_8 : decode cX14_nothingTold 8 = .ok (.getfield 81, 3) := by decide +kernel
theorem dX14_nothingTold_11 : decode cX14_nothingTold 11 = .ok (.iload_n 1, 1) := by decide +kernel
theorem dX14_nothingTold_12 : decode cX14_nothingTold 12 = .ok (.iconst (-1), 1) := by decide +kernel
theorem dX14_nothingTold_13 : decode cX14_nothingTold 13 = .ok (.iastore, 1) := by decide +kernel
theorem dX14_nothingTold_14 : decode cX14_nothingTold 14 = .ok (.iinc 1 1, 3) := by decide +kernel
theorem dX14_nothingTold_17 : decode cX14_nothingTold 17 = .ok (.goto (-15), 3) := by decide +kernel
theorem dX14_nothingTold_20 : decode cX14_nothingTold 20 = .ok (.aload_n 0, 1) := by decide +kernel
theorem dX14_nothingTold_21 : decode cX14_nothingTold 21 = .ok (.getfield 84, 3) := by decide +kernel
theorem dX14_nothingTold_24 : decode cX14_nothingTold 24 = .ok (.iconst 0, 1) := by decide +kernel
theorem dX14_nothingTold_25 : decode cX14_nothingTold 25 = .ok (.iconst (-1), 1) := by decide +kernel
theorem dX14_nothingTold_26 : decode cX14_nothingTold 26 = .ok (.iastore, 1) := by decide +kernel
theorem dX14_nothingTold_27 : decode cX14_nothingTold 27 = .ok (.aload_n 0, 1) := by decide +kernel
theorem dX14_nothingTold_28 : decode cX14_nothingTold 28 = .ok (.getfield 84, 3) := by decide +kernel
theorem dX14_nothingTold_31 : decode cX14_nothingTold 31 = .ok (.iconst 1, 1) := by decide +kernel
theorem dX14_nothingTold_32 : decode cX14_nothingTold 32 = .ok (.iconst (-1), 1) := by decide +kernel
theorem dX14_nothingTold_33 : decode cX14_nothingTold 33 = .ok (.iastore, 1) := by decide +kernel
theorem dX14_nothingTold_34 : decode cX14_nothingTold 34 = .ok (.return_, 1) := by decide +kernel
theorem dX14_tells_0 : decode cX14_tells 0 = .ok (.aload_n 0, 1) := by decide +kernel
theorem dX14_tells_1 : decode cX14_tells 1 = .ok (.getfield 81, 3) := by decide +kernel
theorem dX14_tells_4 : decode cX14_tells 4 = .ok (.iconst 0, 1) := by decide +kernel
theorem dX14_tells_5 : decode cX14_tells 5 = .ok (.iload_n 1, 1) := by decide +kernel
theorem dX14_tells_6 : decode cX14_tells 6 = .ok (.iastore, 1) := by decide +kernel
theorem dX14_tells_7 : decode cX14_tells 7 = .ok (.aload_n 0, 1) := by decide +kernel
theorem dX14_tells_8 : decode cX14_tells 8 = .ok (.getfield 81, 3) := by decide +kernel
theorem dX14_tells_11 : decode cX14_tells 11 = .ok (.iconst 1, 1) := by decide +kernel
theorem dX14_tells_12 : decode cX14_tells 12 = .ok (.iload_n 2, 1) := by decide +kernel
theorem dX14_tells_13 : decode cX14_tells 13 = .ok (.iastore, 1) := by decide +kernel
theorem dX14_tells_14 : decode cX14_tells 14 = .ok (.aload_n 0, 1) := by decide +kernel
theorem dX14_tells_15 : decode cX14_tells 15 = .ok (.getfield 81, 3) := by decide +kernel
theorem dX14_tells_18 : decode cX14_tells 18 = .ok (.iconst 2, 1) := by decide +kernel
theorem dX14_tells_19 : decode cX14_tells 19 = .ok (.iload_n 3, 1) := by decide +kernel
theorem dX14_tells_20 : decode cX14_tells 20 = .ok (.iastore, 1) := by decide +kernel
theorem dX14_tells_21 : decode cX14_tells 21 = .ok (.aload_n 0, 1) := by decide +kernel
theorem dX14_tells_22 : decode cX14_tells 22 = .ok (.getfield 81, 3) := by decide +kernel
theorem dX14_tells_25 : decode cX14_tells 25 = .ok (.iconst 3, 1) := by decide +kernel
theorem dX14_tells_26 : decode cX14_tells 26 = .ok (.iload 4, 2) := by decide +kernel
theorem dX14_tells_28 : decode cX14_tells 28 = .ok (.iastore, 1) := by decide +kernel
theorem dX14_tells_29 : decode cX14_tells 29 = .ok (.return_, 1) := by decide +kernel
theorem dX14_clear_0 : decode cX14_clear 0 = .ok (.aload_n 0, 1) := by decide +kernel
theorem dX14_clear_1 : decode cX14_clear 1 = .ok (.getfield 529, 3) := by decide +kernel
theorem dX14_clear_4 : decode cX14_clear 4 = .ok (.istore_n 1, 1) := by decide +kernel
theorem dX14_clear_5 : decode cX14_clear 5 = .ok (.aload_n 0, 1) := by decide +kernel
theorem dX14_clear_6 : decode cX14_clear 6 = .ok (.iconst 0, 1) := by decide +kernel
theorem dX14_clear_7 : decode cX14_clear 7 = .ok (.putfield 529, 3) := by decide +kernel
theorem dX14_clear_10 : decode cX14_clear 10 = .ok (.aload_n 0, 1) := by decide +kernel
theorem dX14_clear_11 : decode cX14_clear 11 = .ok (.iconst 0, 1) := by decide +kernel
theorem dX14_clear_12 : decode cX14_clear 12 = .ok (.putfield 532, 3) := by decide +kernel
theorem dX14_clear_15 : decode cX14_clear 15 = .ok (.aload_n 0, 1) := by decide +kernel
theorem dX14_clear_16 : decode cX14_clear 16 = .ok (.iconst 1, 1) := by decide +kernel
theorem dX14_clear_17 : decode cX14_clear 17 = .ok (.putfield 668, 3) := by decide +kernel
theorem dX14_clear_20 : decode cX14_clear 20 = .ok (.iload_n 1, 1) := by decide +kernel
theorem dX14_clear_21 : decode cX14_clear 21 = .ok (.ireturn, 1) := by decide +kernel
theorem dX14_nextDrawn_0 : decode cX14_nextDrawn 0 = .ok (.aload_n 0, 1) := by decide +kernel
theorem dX14_nextDrawn_1 : decode cX14_nextDrawn 1 = .ok (.ldc_w 690, 3) := by decide +kernel
theorem dX14_nextDrawn_4 : decode cX14_nextDrawn 4 = .ok (.aload_n 0, 1) := by decide +kernel
theorem dX14_nextDrawn_5 : decode cX14_nextDrawn 5 = .ok (.getfield 691, 3) := by decide +kernel
theorem dX14_nextDrawn_8 : decode cX14_nextDrawn 8 = .ok (.imul, 1) := by decide +kernel
theorem dX14_nextDrawn_9 : decode cX14_nextDrawn 9 = .ok (.sipush 12345, 3) := by decide +kernel
theorem dX14_nextDrawn_12 : decode cX14_nextDrawn 12 = .ok (.iadd, 1) := by decide +kernel
theorem dX14_nextDrawn_13 : decode cX14_nextDrawn 13 = .ok (.putfield 691, 3) := by decide +kernel
theorem dX14_nextDrawn_16 : decode cX14_nextDrawn 16 = .ok (.aload_n 0, 1) := by decide +kernel
theorem dX14_nextDrawn_17 : decode cX14_nextDrawn 17 = .ok (.getfield 691, 3) := by decide +kernel
theorem dX14_nextDrawn_20 : decode cX14_nextDrawn 20 = .ok (.bipush 16, 2) := by decide +kernel
theorem dX14_nextDrawn_22 : decode cX14_nextDrawn 22 = .ok (.iushr, 1) := by decide +kernel
theorem dX14_nextDrawn_23 : decode cX14_nextDrawn 23 = .ok (.sipush 32767, 3) := by decide +kernel
theorem dX14_nextDrawn_26 : decode cX14_nextDrawn 26 = .ok (.iand, 1) := by decide +kernel
theorem dX14_nextDrawn_27 : decode cX14_nextDrawn 27 = .ok (.ireturn, 1) := by decide +kernel
theorem dX14_tried_0 : decode cX14_tried 0 = .ok (.aload_n 0, 1) := by decide +kernel
theorem dX14_tried_1 : decode cX14_tried 1 = .ok (.getfield 538, 3) := by decide +kernel
theorem dX14_tried_4 : decode cX14_tried 4 = .ok (.ireturn, 1) := by decide +kernel
theorem dX14_cut_0 : decode cX14_cut 0 = .ok (.aload_n 0, 1) := by decide +kernel
theorem dX14_cut_1 : decode cX14_cut 1 = .ok (.getfield 541, 3) := by decide +kernel
theorem dX14_cut_4 : decode cX14_cut 4 = .ok (.ireturn, 1) := by decide +kernel
theorem dX14_verdict_0 : decode cX14_verdict 0 = .ok (.aload_n 0, 1) := by decide +kernel
theorem dX14_verdict_1 : decode cX14_verdict 1 = .ok (.getfield 618, 3) := by decide +kernel
theorem dX14_verdict_4 : decode cX14_verdict 4 = .ok (.ireturn, 1) := by decide +kernel
theorem dX14_condition_0 : decode cX14_condition 0 = .ok (.iload_n 1, 1) := by decide +kernel
theorem dX14_condition_1 : decode cX14_condition 1 = .ok (.i2l, 1) := by decide +kernel
theorem dX14_condition_2 : decode cX14_condition 2 = .ok (.lconst 0, 1) := by decide +kernel
theorem dX14_condition_3 : decode cX14_condition 3 = .ok (.ldc2_w 752, 3) := by decide +kernel
theorem dX14_condition_6 : decode cX14_condition 6 = .ok (.invokestatic 395, 3) := by decide +kernel
theorem dX14_condition_9 : decode cX14_condition 9 = .ok (.ifCond .eq 12, 3) := by decide +kernel
theorem dX14_condition_12 : decode cX14_condition 12 = .ok (.aload_n 0, 1) := by decide +kernel
theorem dX14_condition_13 : decode cX14_condition 13 = .ok (.getfield 81, 3) := by decide +kernel
theorem dX14_condition_16 : decode cX14_condition 16 = .ok (.iload_n 1, 1) := by decide +kernel
theorem dX14_condition_17 : decode cX14_condition 17 = .ok (.iaload, 1) := by decide +kernel
theorem dX14_condition_18 : decode cX14_condition 18 = .ok (.goto 4, 3) := by decide +kernel
theorem dX14_condition_21 : decode cX14_condition 21 = .ok (.iconst (-1), 1) := by decide +kernel
theorem dX14_condition_22 : decode cX14_condition 22 = .ok (.ireturn, 1) := by decide +kernel
theorem dX14_changed_0 : decode cX14_changed 0 = .ok (.iload_n 1, 1) := by decide +kernel
theorem dX14_changed_1 : decode cX14_changed 1 = .ok (.i2l, 1) := by decide +kernel
theorem dX14_changed_2 : decode cX14_changed 2 = .ok (.lconst 0, 1) := by decide +kernel
theorem dX14_changed_3 : decode cX14_changed 3 = .ok (.lconst 1, 1) := by decide +kernel
theorem dX14_changed_4 : decode cX14_changed 4 = .ok (.invokestatic 395, 3) := by decide +kernel
theorem dX14_changed_7 : decode cX14_changed 7 = .ok (.ifCond .eq 12, 3) := by decide +kernel
theorem dX14_changed_10 : decode cX14_changed 10 = .ok (.aload_n 0, 1) := by decide +kernel
theorem dX14_changed_11 : decode cX14_changed 11 = .ok (.getfield 84, 3) := by decide +kernel
theorem dX14_changed_14 : decode cX14_changed 14 = .ok (.iload_n 1, 1) := by decide +kernel
theorem dX14_changed_15 : decode cX14_changed 15 = .ok (.iaload, 1) := by decide +kernel
theorem dX14_changed_16 : decode cX14_changed 16 = .ok (.goto 4, 3) := by decide +kernel
theorem dX14_changed_19 : decode cX14_changed 19 = .ok (.iconst (-1), 1) := by decide +kernel
theorem dX14_changed_20 : decode cX14_changed 20 = .ok (.ireturn, 1) := by decide +kernel
theorem dX14_lettersOf_0 : decode cX14_lettersOf 0 = .ok (.iconst 0, 1) := by decide +kernel
theorem dX14_lettersOf_1 : decode cX14_lettersOf 1 = .ok (.istore_n 2, 1) := by decide +kernel
theorem dX14_lettersOf_2 : decode cX14_lettersOf 2 = .ok (.lload_n 0, 1) := by decide +kernel
theorem dX14_lettersOf_3 : decode cX14_lettersOf 3 = .ok (.lstore_n 3, 1) := by decide +kernel
theorem dX14_lettersOf_4 : decode cX14_lettersOf 4 = .ok (.lload_n 3, 1) := by decide +kernel
theorem dX14_lettersOf_5 : decode cX14_lettersOf 5 = .ok (.lconst 0, 1) := by decide +kernel
theorem dX14_lettersOf_6 : decode cX14_lettersOf 6 = .ok (.lcmp, 1) := by decide +kernel
theorem dX14_lettersOf_7 : decode cX14_lettersOf 7 = .ok (.ifCond .eq 14, 3) := by decide +kernel
theorem dX14_lettersOf_10 : decode cX14_lettersOf 10 = .ok (.iinc 2 1, 3) := by decide +kernel
theorem dX14_lettersOf_13 : decode cX14_lettersOf 13 = .ok (.lload_n 3, 1) := by decide +kernel
theorem dX14_lettersOf_14 : decode cX14_lettersOf 14 = .ok (.bipush 8, 2) := by decide +kernel
theorem dX14_lettersOf_16 : decode cX14_lettersOf 16 = .ok (.lushr, 1) := by decide +kernel
theorem dX14_lettersOf_17 : decode cX14_lettersOf 17 = .ok (.lstore_n 3, 1) := by decide +kernel
theorem dX14_lettersOf_18 : decode cX14_lettersOf 18 = .ok (.goto (-14), 3) := by decide +kernel
theorem dX14_lettersOf_21 : decode cX14_lettersOf 21 = .ok (.iload_n 2, 1) := by decide +kernel
theorem dX14_lettersOf_22 : decode cX14_lettersOf 22 = .ok (.ireturn, 1) := by decide +kernel
theorem dX14_thrown_0 : decode cX14_thrown 0 = .ok (.aload_n 0, 1) := by decide +kernel
theorem dX14_thrown_1 : decode cX14_thrown 1 = .ok (.getfield 556, 3) := by decide +kernel
theorem dX14_thrown_4 : decode cX14_thrown 4 = .ok (.invokestatic 754, 3) := by decide +kernel
theorem dX14_thrown_7 : decode cX14_thrown 7 = .ok (.istore_n 2, 1) := by decide +kernel
theorem dX14_thrown_8 : decode cX14_thrown 8 = .ok (.aload_n 0, 1) := by decide +kernel
theorem dX14_thrown_9 : decode cX14_thrown 9 = .ok (.getfield 559, 3) := by decide +kernel
theorem dX14_thrown_12 : decode cX14_thrown 12 = .ok (.invokestatic 754, 3) := by decide +kernel
theorem dX14_thrown_15 : decode cX14_thrown 15 = .ok (.istore_n 3, 1) := by decide +kernel
theorem dX14_thrown_16 : decode cX14_thrown 16 = .ok (.iload_n 1, 1) := by decide +kernel
theorem dX14_thrown_17 : decode cX14_thrown 17 = .ok (.i2l, 1) := by decide +kernel
theorem dX14_thrown_18 : decode cX14_thrown 18 = .ok (.lconst 0, 1) := by decide +kernel
theorem dX14_thrown_19 : decode cX14_thrown 19 = .ok (.iload_n 2, 1) := by decide +kernel
theorem dX14_thrown_20 : decode cX14_thrown 20 = .ok (.iload_n 3, 1) := by decide +kernel
theorem dX14_thrown_21 : decode cX14_thrown 21 = .ok (.iadd, 1) := by decide +kernel
theorem dX14_thrown_22 : decode cX14_thrown 22 = .ok (.iconst 1, 1) := by decide +kernel
theorem dX14_thrown_23 : decode cX14_thrown 23 = .ok (.isub, 1) := by decide +kernel
theorem dX14_thrown_24 : decode cX14_thrown 24 = .ok (.i2l, 1) := by decide +kernel
theorem dX14_thrown_25 : decode cX14_thrown 25 = .ok (.invokestatic 395, 3) := by decide +kernel
theorem dX14_thrown_28 : decode cX14_thrown 28 = .ok (.ifCond .ne 5, 3) := by decide +kernel
theorem dX14_thrown_31 : decode cX14_thrown 31 = .ok (.iconst (-1), 1) := by decide +kernel
theorem dX14_thrown_32 : decode cX14_thrown 32 = .ok (.ireturn, 1) := by decide +kernel
theorem dX14_thrown_33 : decode cX14_thrown 33 = .ok (.iload_n 1, 1) := by decide +kernel
theorem dX14_thrown_34 : decode cX14_thrown 34 = .ok (.iload_n 2, 1) := by decide +kernel
theorem dX14_thrown_35 : decode cX14_thrown 35 = .ok (.if_icmp .ge 19, 3) := by decide +kernel
theorem dX14_thrown_38 : decode cX14_thrown 38 = .ok (.aload_n 0, 1) := by decide +kernel
theorem dX14_thrown_39 : decode cX14_thrown 39 = .ok (.getfield 556, 3) := by decide +kernel
theorem dX14_thrown_42 : decode cX14_thrown 42 = .ok (.bipush 8, 2) := by decide +kernel
theorem dX14_thrown_44 : decode cX14_thrown 44 = .ok (.iload_n 2, 1) := by decide +kernel
theorem dX14_thrown_45 : decode cX14_thrown 45 = .ok (.iconst 1, 1) := by decide +kernel
theorem dX14_thrown_46 : decode cX14_thrown 46 = .ok (.isub, 1) := by decide +kernel
theorem dX14_thrown_47 : decode cX14_thrown 47 = .ok (.iload_n 1, 1) := by decide +kernel
theorem dX14_thrown_48 : decode cX14_thrown 48 = .ok (.isub, 1) := by decide +kernel
theorem dX14_thrown_49 : decode cX14_thrown 49 = .ok (.imul, 1) := by decide +kernel
theorem dX14_thrown_50 : decode cX14_thrown 50 = .ok (.lshr, 1) := by decide +kernel
theorem dX14_thrown_51 : decode cX14_thrown 51 = .ok (.goto 18, 3) := by decide +kernel
theorem dX14_thrown_54 : decode cX14_thrown 54 = .ok (.aload_n 0, 1) := by decide +kernel
theorem dX14_thrown_55 : decode cX14_thrown 55 = .ok (.getfield 559, 3) := by decide +kernel
theorem dX14_thrown_58 : decode cX14_thrown 58 = .ok (.bipush 8, 2) := by decide +kernel
theorem dX14_thrown_60 : decode cX14_thrown 60 = .ok (.iload_n 2, 1) := by decide +kernel
theorem dX14_thrown_61 : decode cX14_thrown 61 = .ok (.iload_n 3, 1) := by decide +kernel
theorem dX14_thrown_62 : decode cX14_thrown 62 = .ok (.iadd, 1) := by decide +kernel
theorem dX14_thrown_63 : decode cX14_thrown 63 = .ok (.iconst 1, 1) := by decide +kernel
theorem dX14_thrown_64 : decode cX14_thrown 64 = .ok (.isub, 1) := by decide +kernel
theorem dX14_thrown_65 : decode cX14_thrown 65 = .ok (.iload_n 1, 1) := by decide +kernel
theorem dX14_thrown_66 : decode cX14_thrown 66 = .ok (.isub, 1) := by decide +kernel
theorem dX14_thrown_67 : decode cX14_thrown 67 = .ok (.imul, 1) := by decide +kernel
theorem dX14_thrown_68 : decode cX14_thrown 68 = .ok (.lshr, 1) := by decide +kernel
theorem dX14_thrown_69 : decode cX14_thrown 69 = .ok (.ldc2_w 758, 3) := by decide +kernel
theorem dX14_thrown_72 : decode cX14_thrown 72 = .ok (.land, 1) := by decide +kernel
theorem dX14_thrown_73 : decode cX14_thrown 73 = .ok (.l2i, 1) := by decide +kernel
theorem dX14_thrown_74 : decode cX14_thrown 74 = .ok (.ireturn, 1) := by decide +kernel
theorem dX14_row_0 : decode cX14_row 0 = .ok (.aload_n 0, 1) := by decide +kernel
theorem dX14_row_1 : decode cX14_row 1 = .ok (.getfield 529, 3) := by decide +kernel
theorem dX14_row_4 : decode cX14_row 4 = .ok (.ireturn, 1) := by decide +kernel
theorem dX14_told_0 : decode cX14_told 0 = .ok (.iload_n 1, 1) := by decide +kernel
theorem dX14_told_1 : decode cX14_told 1 = .ok (.i2l, 1) := by decide +kernel
theorem dX14_told_2 : decode cX14_told 2 = .ok (.lconst 0, 1) := by decide +kernel
theorem dX14_told_3 : decode cX14_told 3 = .ok (.aload_n 0, 1) := by decide +kernel
theorem dX14_told_4 : decode cX14_told 4 = .ok (.getfield 529, 3) := by decide +kernel
theorem dX14_told_7 : decode cX14_told 7 = .ok (.iconst 1, 1) := by decide +kernel
theorem dX14_told_8 : decode cX14_told 8 = .ok (.isub, 1) := by decide +kernel
theorem dX14_told_9 : decode cX14_told 9 = .ok (.i2l, 1) := by decide +kernel
theorem dX14_told_10 : decode cX14_told 10 = .ok (.invokestatic 395, 3) := by decide +kernel
theorem dX14_told_13 : decode cX14_told 13 = .ok (.ifCond .ne 5, 3) := by decide +kernel
theorem dX14_told_16 : decode cX14_told 16 = .ok (.iconst (-1), 1) := by decide +kernel
theorem dX14_told_17 : decode cX14_told 17 = .ok (.ireturn, 1) := by decide +kernel
theorem dX14_told_18 : decode cX14_told 18 = .ok (.iload_n 2, 1) := by decide +kernel
theorem dX14_told_19 : decode cX14_told 19 = .ok (.tableswitch 82 0 6 #[41, 48, 55, 55, 55, 68, 75], 41) := by decide +kernel
theorem dX14_told_60 : decode cX14_told 60 = .ok (.aload_n 0, 1) := by decide +kernel
theorem dX14_told_61 : decode cX14_told 61 = .ok (.getfield 63, 3) := by decide +kernel
theorem dX14_told_64 : decode cX14_told 64 = .ok (.iload_n 1, 1) := by decide +kernel
theorem dX14_told_65 : decode cX14_told 65 = .ok (.iaload, 1) := by decide +kernel
theorem dX14_told_66 : decode cX14_told 66 = .ok (.ireturn, 1) := by decide +kernel
theorem dX14_told_67 : decode cX14_told 67 = .ok (.aload_n 0, 1) := by decide +kernel
theorem dX14_told_68 : decode cX14_told 68 = .ok (.getfield 66, 3) := by decide +kernel
theorem dX14_told_71 : decode cX14_told 71 = .ok (.iload_n 1, 1) := by decide +kernel
theorem dX14_told_72 : decode cX14_told 72 = .ok (.iaload, 1) := by decide +kernel
theorem dX14_told_73 : decode cX14_told 73 = .ok (.ireturn, 1) := by decide +kernel
theorem dX14_told_74 : decode cX14_told 74 = .ok (.aload_n 0, 1) := by decide +kernel
theorem dX14_told_75 : decode cX14_told 75 = .ok (.getfield 69, 3) := by decide +kernel
theorem dX14_told_78 : decode cX14_told 78 = .ok (.iconst 3, 1) := by decide +kernel
theorem dX14_told_79 : decode cX14_told 79 = .ok (.iload_n 1, 1) := by decide +kernel
theorem dX14_told_80 : decode cX14_told 80 = .ok (.imul, 1) := by decide +kernel
theorem dX14_told_81 : decode cX14_told 81 = .ok (.iload_n 2, 1) := by decide +kernel
theorem dX14_told_82 : decode cX14_told 82 = .ok (.iadd, 1) := by decide +kernel
theorem dX14_told_83 : decode cX14_told 83 = .ok (.iconst 2, 1) := by decide +kernel
theorem dX14_told_84 : decode cX14_told 84 = .ok (.isub, 1) := by decide +kernel
theorem dX14_told_85 : decode cX14_told 85 = .ok (.iaload, 1) := by decide +kernel
theorem dX14_told_86 : decode cX14_told 86 = .ok (.ireturn, 1) := by decide +kernel
theorem dX14_told_87 : decode cX14_told 87 = .ok (.aload_n 0, 1) := by decide +kernel
theorem dX14_told_88 : decode cX14_told 88 = .ok (.getfield 72, 3) := by decide +kernel
theorem dX14_told_91 : decode cX14_told 91 = .ok (.iload_n 1, 1) := by decide +kernel
theorem dX14_told_92 : decode cX14_told 92 = .ok (.iaload, 1) := by decide +kernel
theorem dX14_told_93 : decode cX14_told 93 = .ok (.ireturn, 1) := by decide +kernel
theorem dX14_told_94 : decode cX14_told 94 = .ok (.aload_n 0, 1) := by decide +kernel
theorem dX14_told_95 : decode cX14_told 95 = .ok (.getfield 75, 3) := by decide +kernel
theorem dX14_told_98 : decode cX14_told 98 = .ok (.iload_n 1, 1) := by decide +kernel
theorem dX14_told_99 : decode cX14_told 99 = .ok (.iaload, 1) := by decide +kernel
theorem dX14_told_100 : decode cX14_told 100 = .ok (.ireturn, 1) := by decide +kernel
theorem dX14_told_101 : decode cX14_told 101 = .ok (.iconst (-1), 1) := by decide +kernel
theorem dX14_told_102 : decode cX14_told 102 = .ok (.ireturn, 1) := by decide +kernel
theorem dX14_beside_0 : decode cX14_beside 0 = .ok (.iload_n 1, 1) := by decide +kernel
theorem dX14_beside_1 : decode cX14_beside 1 = .ok (.i2l, 1) := by decide +kernel
theorem dX14_beside_2 : decode cX14_beside 2 = .ok (.lconst 0, 1) := by decide +kernel
theorem dX14_beside_3 : decode cX14_beside 3 = .ok (.aload_n 0, 1) := by decide +kernel
theorem dX14_beside_4 : decode cX14_beside 4 = .ok (.getfield 621, 3) := by decide +kernel
theorem dX14_beside_7 : decode cX14_beside 7 = .ok (.iconst 1, 1) := by decide +kernel
theorem dX14_beside_8 : decode cX14_beside 8 = .ok (.isub, 1) := by decide +kernel
theorem dX14_beside_9 : decode cX14_beside 9 = .ok (.i2l, 1) := by decide +kernel
theorem dX14_beside_10 : decode cX14_beside 10 = .ok (.invokestatic 395, 3) := by decide +kernel
theorem dX14_beside_13 : decode cX14_beside 13 = .ok (.ifCond .ne 7, 3) := by decide +kernel
theorem dX14_beside_16 : decode cX14_beside 16 = .ok (.ldc2_w 762, 3) := by decide +kernel
theorem dX14_beside_19 : decode cX14_beside 19 = .ok (.lreturn, 1) := by decide +kernel
theorem dX14_beside_20 : decode cX14_beside 20 = .ok (.aload_n 0, 1) := by decide +kernel
theorem dX14_beside_21 : decode cX14_beside 21 = .ok (.getfield 41, 3) := by decide +kernel
theorem dX14_beside_24 : decode cX14_beside 24 = .ok (.iconst 3, 1) := by decide +kernel
theorem dX14_beside_25 : decode cX14_beside 25 = .ok (.iload_n 1, 1) := by decide +kernel
theorem dX14_beside_26 : decode cX14_beside 26 = .ok (.iadd, 1) := by decide +kernel
theorem dX14_beside_27 : decode cX14_beside 27 = .ok (.iaload, 1) := by decide +kernel
theorem dX14_beside_28 : decode cX14_beside 28 = .ok (.istore_n 3, 1) := by decide +kernel
theorem dX14_beside_29 : decode cX14_beside 29 = .ok (.iload_n 3, 1) := by decide +kernel
theorem dX14_beside_30 : decode cX14_beside 30 = .ok (.iconst (-1), 1) := by decide +kernel
theorem dX14_beside_31 : decode cX14_beside 31 = .ok (.if_icmp .eq 41, 3) := by decide +kernel
theorem dX14_beside_34 : decode cX14_beside 34 = .ok (.iload_n 2, 1) := by decide +kernel
theorem dX14_beside_35 : decode cX14_beside 35 = .ok (.i2l, 1) := by decide +kernel
theorem dX14_beside_36 : decode cX14_beside 36 = .ok (.lconst 0, 1) := by decide +kernel
theorem dX14_beside_37 : decode cX14_beside 37 = .ok (.aload_n 0, 1) := by decide +kernel
theorem dX14_beside_38 : decode cX14_beside 38 = .ok (.getfield 19, 3) := by decide +kernel
theorem dX14_beside_41 : decode cX14_beside 41 = .ok (.getfield 399, 3) := by decide +kernel
theorem dX14_beside_44 : decode cX14_beside 44 = .ok (.iload_n 3, 1) := by decide +kernel
theorem dX14_beside_45 : decode cX14_beside 45 = .ok (.iaload, 1) := by decide +kernel
theorem dX14_beside_46 : decode cX14_beside 46 = .ok (.iconst 1, 1) := by decide +kernel
theorem dX14_beside_47 : decode cX14_beside 47 = .ok (.isub, 1) := by decide +kernel
theorem dX14_beside_48 : decode cX14_beside 48 = .ok (.i2l, 1) := by decide +kernel
theorem dX14_beside_49 : decode cX14_beside 49 = .ok (.invokestatic 395, 3) := by decide +kernel
theorem dX14_beside_52 : decode cX14_beside 52 = .ok (.ifCond .eq 20, 3) := by decide +kernel
theorem dX14_beside_55 : decode cX14_beside 55 = .ok (.aload_n 0, 1) := by decide +kernel
theorem dX14_beside_56 : decode cX14_beside 56 = .ok (.getfield 45, 3) := by decide +kernel
theorem dX14_beside_59 : decode cX14_beside 59 = .ok (.bipush 24, 2) := by decide +kernel
theorem dX14_beside_61 : decode cX14_beside 61 = .ok (.iconst 3, 1) := by decide +kernel
theorem dX14_beside_62 : decode cX14_beside 62 = .ok (.iload_n 1, 1) := by decide +kernel
theorem dX14_beside_63 : decode cX14_beside 63 = .ok (.iadd, 1) := by decide +kernel
theorem dX14_beside_64 : decode cX14_beside 64 = .ok (.imul, 1) := by decide +kernel
theorem dX14_beside_65 : decode cX14_beside 65 = .ok (.iload_n 2, 1) := by decide +kernel
theorem dX14_beside_66 : decode cX14_beside 66 = .ok (.iadd, 1) := by decide +kernel
theorem dX14_beside_67 : decode cX14_beside 67 = .ok (.iaload, 1) := by decide +kernel
theorem dX14_beside_68 : decode cX14_beside 68 = .ok (.i2l, 1) := by decide +kernel
theorem dX14_beside_69 : decode cX14_beside 69 = .ok (.goto 6, 3) := by decide +kernel
theorem dX14_beside_72 : decode cX14_beside 72 = .ok (.ldc2_w 762, 3) := by decide +kernel
theorem dX14_beside_75 : decode cX14_beside 75 = .ok (.lreturn, 1) := by decide +kernel
theorem dX14_count_0 : decode cX14_count 0 = .ok (.iload_n 1, 1) := by decide +kernel
theorem dX14_count_1 : decode cX14_count 1 = .ok (.tableswitch 57 0 3 #[31, 39, 44, 52], 31) := by decide +kernel
theorem dX14_count_32 : decode cX14_count 32 = .ok (.aload_n 0, 1) := by decide +kernel
theorem dX14_count_33 : decode cX14_count 33 = .ok (.getfield 19, 3) := by decide +kernel
theorem dX14_count_36 : decode cX14_count 36 = .ok (.getfield 499, 3) := by decide +kernel
theorem dX14_count_39 : decode cX14_count 39 = .ok (.ireturn, 1) := by decide +kernel
theorem dX14_count_40 : decode cX14_count 40 = .ok (.aload_n 0, 1) := by decide +kernel
theorem dX14_count_41 : decode cX14_count 41 = .ok (.getfield 523, 3) := by decide +kernel
theorem dX14_count_44 : decode cX14_count 44 = .ok (.ireturn, 1) := by decide +kernel
theorem dX14_count_45 : decode cX14_count 45 = .ok (.aload_n 0, 1) := by decide +kernel
theorem dX14_count_46 : decode cX14_count 46 = .ok (.getfield 19, 3) := by decide +kernel
theorem dX14_count_49 : decode cX14_count 49 = .ok (.getfield 208, 3) := by decide +kernel
theorem dX14_count_52 : decode cX14_count 52 = .ok (.ireturn, 1) := by decide +kernel
theorem dX14_count_53 : decode cX14_count 53 = .ok (.aload_n 0, 1) := by decide +kernel
theorem dX14_count_54 : decode cX14_count 54 = .ok (.getfield 621, 3) := by decide +kernel
theorem dX14_count_57 : decode cX14_count 57 = .ok (.ireturn, 1) := by decide +kernel
theorem dX14_count_58 : decode cX14_count 58 = .ok (.iconst (-1), 1) := by decide +kernel
theorem dX14_count_59 : decode cX14_count 59 = .ok (.ireturn, 1) := by decide +kernel
