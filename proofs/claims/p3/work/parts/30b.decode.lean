theorem dX12_find_0 : decode cX12_find 0 = .ok (.iconst 0, 1) := by decide +kernel
theorem dX12_find_1 : decode cX12_find 1 = .ok (.istore 6, 2) := by decide +kernel
theorem dX12_find_3 : decode cX12_find 3 = .ok (.iload 6, 2) := by decide +kernel
theorem dX12_find_5 : decode cX12_find 5 = .ok (.aload_n 0, 1) := by decide +kernel
theorem dX12_find_6 : decode cX12_find 6 = .ok (.getfield 55, 3) := by decide +kernel
theorem dX12_find_9 : decode cX12_find 9 = .ok (.iload_n 1, 1) := by decide +kernel
theorem dX12_find_10 : decode cX12_find 10 = .ok (.iaload, 1) := by decide +kernel
theorem dX12_find_11 : decode cX12_find 11 = .ok (.if_icmp .ge 67, 3) := by decide +kernel
theorem dX12_find_14 : decode cX12_find 14 = .ok (.aload_n 0, 1) := by decide +kernel
theorem dX12_find_15 : decode cX12_find 15 = .ok (.getfield 58, 3) := by decide +kernel
theorem dX12_find_18 : decode cX12_find 18 = .ok (.aload_n 0, 1) := by decide +kernel
theorem dX12_find_19 : decode cX12_find 19 = .ok (.getfield 52, 3) := by decide +kernel
theorem dX12_find_22 : decode cX12_find 22 = .ok (.bipush 12, 2) := by decide +kernel
theorem dX12_find_24 : decode cX12_find 24 = .ok (.iload_n 1, 1) := by decide +kernel
theorem dX12_find_25 : decode cX12_find 25 = .ok (.imul, 1) := by decide +kernel
theorem dX12_find_26 : decode cX12_find 26 = .ok (.iload 6, 2) := by decide +kernel
theorem dX12_find_28 : decode cX12_find 28 = .ok (.iadd, 1) := by decide +kernel
theorem dX12_find_29 : decode cX12_find 29 = .ok (.iaload, 1) := by decide +kernel
theorem dX12_find_30 : decode cX12_find 30 = .ok (.laload, 1) := by decide +kernel
theorem dX12_find_31 : decode cX12_find 31 = .ok (.lload_n 2, 1) := by decide +kernel
theorem dX12_find_32 : decode cX12_find 32 = .ok (.lcmp, 1) := by decide +kernel
theorem dX12_find_33 : decode cX12_find 33 = .ok (.ifCond .ne 39, 3) := by decide +kernel
theorem dX12_find_36 : decode cX12_find 36 = .ok (.aload_n 0, 1) := by decide +kernel
theorem dX12_find_37 : decode cX12_find 37 = .ok (.getfield 61, 3) := by decide +kernel
theorem dX12_find_40 : decode cX12_find 40 = .ok (.aload_n 0, 1) := by decide +kernel
theorem dX12_find_41 : decode cX12_find 41 = .ok (.getfield 52, 3) := by decide +kernel
theorem dX12_find_44 : decode cX12_find 44 = .ok (.bipush 12, 2) := by decide +kernel
theorem dX12_find_46 : decode cX12_find 46 = .ok (.iload_n 1, 1) := by decide +kernel
theorem dX12_find_47 : decode cX12_find 47 = .ok (.imul, 1) := by decide +kernel
theorem dX12_find_48 : decode cX12_find 48 = .ok (.iload 6, 2) := by decide +kernel
theorem dX12_find_50 : decode cX12_find 50 = .ok (.iadd, 1) := by decide +kernel
theorem dX12_find_51 : decode cX12_find 51 = .ok (.iaload, 1) := by decide +kernel
theorem dX12_find_52 : decode cX12_find 52 = .ok (.laload, 1) := by decide +kernel
theorem dX12_find_53 : decode cX12_find 53 = .ok (.lload 4, 2) := by decide +kernel
theorem dX12_find_55 : decode cX12_find 55 = .ok (.lcmp, 1) := by decide +kernel
theorem dX12_find_56 : decode cX12_find 56 = .ok (.ifCond .ne 16, 3) := by decide +kernel
theorem dX12_find_59 : decode cX12_find 59 = .ok (.aload_n 0, 1) := by decide +kernel
theorem dX12_find_60 : decode cX12_find 60 = .ok (.getfield 52, 3) := by decide +kernel
theorem dX12_find_63 : decode cX12_find 63 = .ok (.bipush 12, 2) := by decide +kernel
theorem dX12_find_65 : decode cX12_find 65 = .ok (.iload_n 1, 1) := by decide +kernel
theorem dX12_find_66 : decode cX12_find 66 = .ok (.imul, 1) := by decide +kernel
theorem dX12_find_67 : decode cX12_find 67 = .ok (.iload 6, 2) := by decide +kernel
theorem dX12_find_69 : decode cX12_find 69 = .ok (.iadd, 1) := by decide +kernel
theorem dX12_find_70 : decode cX12_find 70 = .ok (.iaload, 1) := by decide +kernel
theorem dX12_find_71 : decode cX12_find 71 = .ok (.ireturn, 1) := by decide +kernel
theorem dX12_find_72 : decode cX12_find 72 = .ok (.iinc 6 1, 3) := by decide +kernel
theorem dX12_find_75 : decode cX12_find 75 = .ok (.goto (-72), 3) := by decide +kernel
theorem dX12_find_78 : decode cX12_find 78 = .ok (.iconst (-1), 1) := by decide +kernel
theorem dX12_find_79 : decode cX12_find 79 = .ok (.ireturn, 1) := by decide +kernel
theorem dX14_step_0 : decode cX14_step 0 = .ok (.aload_n 0, 1) := by decide +kernel
theorem dX14_step_1 : decode cX14_step 1 = .ok (.dup, 1) := by decide +kernel
theorem dX14_step_2 : decode cX14_step 2 = .ok (.getfield 564, 3) := by decide +kernel
theorem dX14_step_5 : decode cX14_step 5 = .ok (.iconst 1, 1) := by decide +kernel
theorem dX14_step_6 : decode cX14_step 6 = .ok (.iadd, 1) := by decide +kernel
theorem dX14_step_7 : decode cX14_step 7 = .ok (.putfield 564, 3) := by decide +kernel
theorem dX14_step_10 : decode cX14_step 10 = .ok (.aload_n 0, 1) := by decide +kernel
theorem dX14_step_11 : decode cX14_step 11 = .ok (.getfield 564, 3) := by decide +kernel
theorem dX14_step_14 : decode cX14_step 14 = .ok (.sipush 300, 3) := by decide +kernel
theorem dX14_step_17 : decode cX14_step 17 = .ok (.if_icmp .le 8, 3) := by decide +kernel
theorem dX14_step_20 : decode cX14_step 20 = .ok (.aload_n 0, 1) := by decide +kernel
theorem dX14_step_21 : decode cX14_step 21 = .ok (.iconst 2, 1) := by decide +kernel
theorem dX14_step_22 : decode cX14_step 22 = .ok (.invokevirtual 562, 3) := by decide +kernel
theorem dX14_step_25 : decode cX14_step 25 = .ok (.return_, 1) := by decide +kernel
theorem dX14_classHere_0 : decode cX14_classHere 0 = .ok (.aload_n 0, 1) := by decide +kernel
theorem dX14_classHere_1 : decode cX14_classHere 1 = .ok (.getfield 41, 3) := by decide +kernel
theorem dX14_classHere_4 : decode cX14_classHere 4 = .ok (.aload_n 0, 1) := by decide +kernel
theorem dX14_classHere_5 : decode cX14_classHere 5 = .ok (.getfield 57, 3) := by decide +kernel
theorem dX14_classHere_8 : decode cX14_classHere 8 = .ok (.aload_n 0, 1) := by decide +kernel
theorem dX14_classHere_9 : decode cX14_classHere 9 = .ok (.getfield 567, 3) := by decide +kernel
theorem dX14_classHere_12 : decode cX14_classHere 12 = .ok (.iaload, 1) := by decide +kernel
theorem dX14_classHere_13 : decode cX14_classHere 13 = .ok (.iaload, 1) := by decide +kernel
theorem dX14_classHere_14 : decode cX14_classHere 14 = .ok (.ireturn, 1) := by decide +kernel
