theorem dX8_packWords_0 : decode cX8_packWords 0 = .ok (.iload_n 2, 1) := by decide +kernel
theorem dX8_packWords_1 : decode cX8_packWords 1 = .ok (.istore_n 3, 1) := by decide +kernel
theorem dX8_packWords_2 : decode cX8_packWords 2 = .ok (.lconst 0, 1) := by decide +kernel
theorem dX8_packWords_3 : decode cX8_packWords 3 = .ok (.lstore 4, 2) := by decide +kernel
theorem dX8_packWords_5 : decode cX8_packWords 5 = .ok (.iconst 0, 1) := by decide +kernel
theorem dX8_packWords_6 : decode cX8_packWords 6 = .ok (.istore 6, 2) := by decide +kernel
theorem dX8_packWords_8 : decode cX8_packWords 8 = .ok (.iload 6, 2) := by decide +kernel
theorem dX8_packWords_10 : decode cX8_packWords 10 = .ok (.aload_n 1, 1) := by decide +kernel
theorem dX8_packWords_11 : decode cX8_packWords 11 = .ok (.invokevirtual 41, 3) := by decide +kernel
theorem dX8_packWords_14 : decode cX8_packWords 14 = .ok (.if_icmp .ge 60, 3) := by decide +kernel
theorem dX8_packWords_17 : decode cX8_packWords 17 = .ok (.iload_n 3, 1) := by decide +kernel
theorem dX8_packWords_18 : decode cX8_packWords 18 = .ok (.bipush 21, 2) := by decide +kernel
theorem dX8_packWords_20 : decode cX8_packWords 20 = .ok (.if_icmp .ge 54, 3) := by decide +kernel
theorem dX8_packWords_23 : decode cX8_packWords 23 = .ok (.aload_n 1, 1) := by decide +kernel
theorem dX8_packWords_24 : decode cX8_packWords 24 = .ok (.iload 6, 2) := by decide +kernel
theorem dX8_packWords_26 : decode cX8_packWords 26 = .ok (.invokevirtual 47, 3) := by decide +kernel
theorem dX8_packWords_29 : decode cX8_packWords 29 = .ok (.invokestatic 51, 3) := by decide +kernel
theorem dX8_packWords_32 : decode cX8_packWords 32 = .ok (.istore 7, 2) := by decide +kernel
theorem dX8_packWords_34 : decode cX8_packWords 34 = .ok (.iload 7, 2) := by decide +kernel
theorem dX8_packWords_36 : decode cX8_packWords 36 = .ok (.ifCond .le 18, 3) := by decide +kernel
theorem dX8_packWords_39 : decode cX8_packWords 39 = .ok (.lload 4, 2) := by decide +kernel
theorem dX8_packWords_41 : decode cX8_packWords 41 = .ok (.ldc2_w 55, 3) := by decide +kernel
theorem dX8_packWords_44 : decode cX8_packWords 44 = .ok (.lmul, 1) := by decide +kernel
theorem dX8_packWords_45 : decode cX8_packWords 45 = .ok (.iload 7, 2) := by decide +kernel
theorem dX8_packWords_47 : decode cX8_packWords 47 = .ok (.i2l, 1) := by decide +kernel
theorem dX8_packWords_48 : decode cX8_packWords 48 = .ok (.ladd, 1) := by decide +kernel
theorem dX8_packWords_49 : decode cX8_packWords 49 = .ok (.lstore 4, 2) := by decide +kernel
theorem dX8_packWords_51 : decode cX8_packWords 51 = .ok (.goto 17, 3) := by decide +kernel
theorem dX8_packWords_54 : decode cX8_packWords 54 = .ok (.aload_n 0, 1) := by decide +kernel
theorem dX8_packWords_55 : decode cX8_packWords 55 = .ok (.getfield 22, 3) := by decide +kernel
theorem dX8_packWords_58 : decode cX8_packWords 58 = .ok (.iload_n 3, 1) := by decide +kernel
theorem dX8_packWords_59 : decode cX8_packWords 59 = .ok (.lload 4, 2) := by decide +kernel
theorem dX8_packWords_61 : decode cX8_packWords 61 = .ok (.lastore, 1) := by decide +kernel
theorem dX8_packWords_62 : decode cX8_packWords 62 = .ok (.iinc 3 1, 3) := by decide +kernel
theorem dX8_packWords_65 : decode cX8_packWords 65 = .ok (.lconst 0, 1) := by decide +kernel
theorem dX8_packWords_66 : decode cX8_packWords 66 = .ok (.lstore 4, 2) := by decide +kernel
theorem dX8_packWords_68 : decode cX8_packWords 68 = .ok (.iinc 6 1, 3) := by decide +kernel
theorem dX8_packWords_71 : decode cX8_packWords 71 = .ok (.goto (-63), 3) := by decide +kernel
theorem dX8_packWords_74 : decode cX8_packWords 74 = .ok (.iload_n 3, 1) := by decide +kernel
theorem dX8_packWords_75 : decode cX8_packWords 75 = .ok (.ireturn, 1) := by decide +kernel
theorem dX13_init_0 : decode cX13_init 0 = .ok (.aload_n 0, 1) := by decide +kernel
theorem dX13_init_1 : decode cX13_init 1 = .ok (.aconst_null, 1) := by decide +kernel
theorem dX13_init_2 : decode cX13_init 2 = .ok (.aconst_null, 1) := by decide +kernel
theorem dX13_init_3 : decode cX13_init 3 = .ok (.iconst 0, 1) := by decide +kernel
theorem dX13_init_4 : decode cX13_init 4 = .ok (.iconst 0, 1) := by decide +kernel
theorem dX13_init_5 : decode cX13_init 5 = .ok (.invokespecial 1, 3) := by decide +kernel
theorem dX13_init_8 : decode cX13_init 8 = .ok (.return_, 1) := by decide +kernel
theorem dJ20_init_0 : decode cJ20_init 0 = .ok (.aload_n 0, 1) := by decide +kernel
theorem dJ20_init_1 : decode cJ20_init 1 = .ok (.aload_n 1, 1) := by decide +kernel
theorem dJ20_init_2 : decode cJ20_init 2 = .ok (.aload_n 2, 1) := by decide +kernel
theorem dJ20_init_3 : decode cJ20_init 3 = .ok (.iload_n 3, 1) := by decide +kernel
theorem dJ20_init_4 : decode cJ20_init 4 = .ok (.iload 4, 2) := by decide +kernel
theorem dJ20_init_6 : decode cJ20_init 6 = .ok (.invokespecial 16, 3) := by decide +kernel
theorem dJ20_init_9 : decode cJ20_init 9 = .ok (.return_, 1) := by decide +kernel
theorem dJ18_init_0 : decode cJ18_init 0 = .ok (.aload_n 0, 1) := by decide +kernel
theorem dJ18_init_1 : decode cJ18_init 1 = .ok (.aload_n 1, 1) := by decide +kernel
theorem dJ18_init_2 : decode cJ18_init 2 = .ok (.aload_n 2, 1) := by decide +kernel
theorem dJ18_init_3 : decode cJ18_init 3 = .ok (.iload_n 3, 1) := by decide +kernel
theorem dJ18_init_4 : decode cJ18_init 4 = .ok (.iload 4, 2) := by decide +kernel
theorem dJ18_init_6 : decode cJ18_init 6 = .ok (.invokespecial 16, 3) := by decide +kernel
theorem dJ18_init_9 : decode cJ18_init 9 = .ok (.return_, 1) := by decide +kernel
theorem dJ25_init_0 : decode cJ25_init 0 = .ok (.aload_n 0, 1) := by decide +kernel
theorem dJ25_init_1 : decode cJ25_init 1 = .ok (.invokespecial 1, 3) := by decide +kernel
theorem dJ25_init_4 : decode cJ25_init 4 = .ok (.aload_n 0, 1) := by decide +kernel
theorem dJ25_init_5 : decode cJ25_init 5 = .ok (.aload_n 0, 1) := by decide +kernel
theorem dJ25_init_6 : decode cJ25_init 6 = .ok (.putfield 7, 3) := by decide +kernel
theorem dJ25_init_9 : decode cJ25_init 9 = .ok (.aload_n 0, 1) := by decide +kernel
theorem dJ25_init_10 : decode cJ25_init 10 = .ok (.getstatic 13, 3) := by decide +kernel
theorem dJ25_init_13 : decode cJ25_init 13 = .ok (.putfield 17, 3) := by decide +kernel
theorem dJ25_init_16 : decode cJ25_init 16 = .ok (.aload_n 0, 1) := by decide +kernel
theorem dJ25_init_17 : decode cJ25_init 17 = .ok (.getstatic 20, 3) := by decide +kernel
theorem dJ25_init_20 : decode cJ25_init 20 = .ok (.putfield 24, 3) := by decide +kernel
theorem dJ25_init_23 : decode cJ25_init 23 = .ok (.iload 4, 2) := by decide +kernel
theorem dJ25_init_25 : decode cJ25_init 25 = .ok (.ifCond .eq 11, 3) := by decide +kernel
theorem dJ25_init_28 : decode cJ25_init 28 = .ok (.aload_n 0, 1) := by decide +kernel
theorem dJ25_init_29 : decode cJ25_init 29 = .ok (.invokevirtual 27, 3) := by decide +kernel
theorem dJ25_init_32 : decode cJ25_init 32 = .ok (.pop, 1) := by decide +kernel
theorem dJ25_init_33 : decode cJ25_init 33 = .ok (.goto 8, 3) := by decide +kernel
theorem dJ25_init_36 : decode cJ25_init 36 = .ok (.aload_n 0, 1) := by decide +kernel
theorem dJ25_init_37 : decode cJ25_init 37 = .ok (.aconst_null, 1) := by decide +kernel
theorem dJ25_init_38 : decode cJ25_init 38 = .ok (.putfield 17, 3) := by decide +kernel
theorem dJ25_init_41 : decode cJ25_init 41 = .ok (.aload_n 0, 1) := by decide +kernel
theorem dJ25_init_42 : decode cJ25_init 42 = .ok (.aload_n 1, 1) := by decide +kernel
theorem dJ25_init_43 : decode cJ25_init 43 = .ok (.putfield 31, 3) := by decide +kernel
theorem dJ25_init_46 : decode cJ25_init 46 = .ok (.aload_n 0, 1) := by decide +kernel
theorem dJ25_init_47 : decode cJ25_init 47 = .ok (.aload_n 2, 1) := by decide +kernel
theorem dJ25_init_48 : decode cJ25_init 48 = .ok (.putfield 7, 3) := by decide +kernel
theorem dJ25_init_51 : decode cJ25_init 51 = .ok (.iload_n 3, 1) := by decide +kernel
theorem dJ25_init_52 : decode cJ25_init 52 = .ok (.ifCond .ne 8, 3) := by decide +kernel
theorem dJ25_init_55 : decode cJ25_init 55 = .ok (.aload_n 0, 1) := by decide +kernel
theorem dJ25_init_56 : decode cJ25_init 56 = .ok (.aconst_null, 1) := by decide +kernel
theorem dJ25_init_57 : decode cJ25_init 57 = .ok (.putfield 24, 3) := by decide +kernel
theorem dJ25_init_60 : decode cJ25_init 60 = .ok (.return_, 1) := by decide +kernel
