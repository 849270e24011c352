theorem dX14_values_0 : decode cX14_values 0 = .ok (.aload_n 0, 1) := by decide +kernel
theorem dX14_values_1 : decode cX14_values 1 = .ok (.getfield 19, 3) := by decide +kernel
theorem dX14_values_4 : decode cX14_values 4 = .ok (.getfield 490, 3) := by decide +kernel
theorem dX14_values_7 : decode cX14_values 7 = .ok (.iconst 3, 1) := by decide +kernel
theorem dX14_values_8 : decode cX14_values 8 = .ok (.iload_n 1, 1) := by decide +kernel
theorem dX14_values_9 : decode cX14_values 9 = .ok (.imul, 1) := by decide +kernel
theorem dX14_values_10 : decode cX14_values 10 = .ok (.iload_n 2, 1) := by decide +kernel
theorem dX14_values_11 : decode cX14_values 11 = .ok (.iadd, 1) := by decide +kernel
theorem dX14_values_12 : decode cX14_values 12 = .ok (.iaload, 1) := by decide +kernel
theorem dX14_values_13 : decode cX14_values 13 = .ok (.istore_n 3, 1) := by decide +kernel
theorem dX14_values_14 : decode cX14_values 14 = .ok (.aload_n 0, 1) := by decide +kernel
theorem dX14_values_15 : decode cX14_values 15 = .ok (.getfield 19, 3) := by decide +kernel
theorem dX14_values_18 : decode cX14_values 18 = .ok (.getfield 493, 3) := by decide +kernel
theorem dX14_values_21 : decode cX14_values 21 = .ok (.iconst 3, 1) := by decide +kernel
theorem dX14_values_22 : decode cX14_values 22 = .ok (.iload_n 1, 1) := by decide +kernel
theorem dX14_values_23 : decode cX14_values 23 = .ok (.imul, 1) := by decide +kernel
theorem dX14_values_24 : decode cX14_values 24 = .ok (.iload_n 2, 1) := by decide +kernel
theorem dX14_values_25 : decode cX14_values 25 = .ok (.iadd, 1) := by decide +kernel
theorem dX14_values_26 : decode cX14_values 26 = .ok (.iaload, 1) := by decide +kernel
theorem dX14_values_27 : decode cX14_values 27 = .ok (.istore 4, 2) := by decide +kernel
theorem dX14_values_29 : decode cX14_values 29 = .ok (.iconst 1, 1) := by decide +kernel
theorem dX14_values_30 : decode cX14_values 30 = .ok (.iload_n 3, 1) := by decide +kernel
theorem dX14_values_31 : decode cX14_values 31 = .ok (.ifCond .ge 12, 3) := by decide +kernel
theorem dX14_values_34 : decode cX14_values 34 = .ok (.iload 4, 2) := by decide +kernel
theorem dX14_values_36 : decode cX14_values 36 = .ok (.ifCond .le 7, 3) := by decide +kernel
theorem dX14_values_39 : decode cX14_values 39 = .ok (.iconst 1, 1) := by decide +kernel
theorem dX14_values_40 : decode cX14_values 40 = .ok (.goto 4, 3) := by decide +kernel
theorem dX14_values_43 : decode cX14_values 43 = .ok (.iconst 0, 1) := by decide +kernel
theorem dX14_values_44 : decode cX14_values 44 = .ok (.iadd, 1) := by decide +kernel
theorem dX14_values_45 : decode cX14_values 45 = .ok (.iload 4, 2) := by decide +kernel
theorem dX14_values_47 : decode cX14_values 47 = .ok (.iload_n 3, 1) := by decide +kernel
theorem dX14_values_48 : decode cX14_values 48 = .ok (.if_icmp .le 7, 3) := by decide +kernel
theorem dX14_values_51 : decode cX14_values 51 = .ok (.iconst 1, 1) := by decide +kernel
theorem dX14_values_52 : decode cX14_values 52 = .ok (.goto 4, 3) := by decide +kernel
theorem dX14_values_55 : decode cX14_values 55 = .ok (.iconst 0, 1) := by decide +kernel
theorem dX14_values_56 : decode cX14_values 56 = .ok (.iadd, 1) := by decide +kernel
theorem dX14_values_57 : decode cX14_values 57 = .ok (.ireturn, 1) := by decide +kernel
theorem dX14_valueOf_0 : decode cX14_valueOf 0 = .ok (.aload_n 0, 1) := by decide +kernel
theorem dX14_valueOf_1 : decode cX14_valueOf 1 = .ok (.getfield 19, 3) := by decide +kernel
theorem dX14_valueOf_4 : decode cX14_valueOf 4 = .ok (.getfield 490, 3) := by decide +kernel
theorem dX14_valueOf_7 : decode cX14_valueOf 7 = .ok (.iconst 3, 1) := by decide +kernel
theorem dX14_valueOf_8 : decode cX14_valueOf 8 = .ok (.iload_n 1, 1) := by decide +kernel
theorem dX14_valueOf_9 : decode cX14_valueOf 9 = .ok (.imul, 1) := by decide +kernel
theorem dX14_valueOf_10 : decode cX14_valueOf 10 = .ok (.iload_n 2, 1) := by decide +kernel
theorem dX14_valueOf_11 : decode cX14_valueOf 11 = .ok (.iadd, 1) := by decide +kernel
theorem dX14_valueOf_12 : decode cX14_valueOf 12 = .ok (.iaload, 1) := by decide +kernel
theorem dX14_valueOf_13 : decode cX14_valueOf 13 = .ok (.istore 4, 2) := by decide +kernel
theorem dX14_valueOf_15 : decode cX14_valueOf 15 = .ok (.aload_n 0, 1) := by decide +kernel
theorem dX14_valueOf_16 : decode cX14_valueOf 16 = .ok (.getfield 19, 3) := by decide +kernel
theorem dX14_valueOf_19 : decode cX14_valueOf 19 = .ok (.getfield 493, 3) := by decide +kernel
theorem dX14_valueOf_22 : decode cX14_valueOf 22 = .ok (.iconst 3, 1) := by decide +kernel
theorem dX14_valueOf_23 : decode cX14_valueOf 23 = .ok (.iload_n 1, 1) := by decide +kernel
theorem dX14_valueOf_24 : decode cX14_valueOf 24 = .ok (.imul, 1) := by decide +kernel
theorem dX14_valueOf_25 : decode cX14_valueOf 25 = .ok (.iload_n 2, 1) := by decide +kernel
theorem dX14_valueOf_26 : decode cX14_valueOf 26 = .ok (.iadd, 1) := by decide +kernel
theorem dX14_valueOf_27 : decode cX14_valueOf 27 = .ok (.iaload, 1) := by decide +kernel
theorem dX14_valueOf_28 : decode cX14_valueOf 28 = .ok (.istore 5, 2) := by decide +kernel
theorem dX14_valueOf_30 : decode cX14_valueOf 30 = .ok (.iload_n 3, 1) := by decide +kernel
theorem dX14_valueOf_31 : decode cX14_valueOf 31 = .ok (.ifCond .ne 6, 3) := by decide +kernel
theorem dX14_valueOf_34 : decode cX14_valueOf 34 = .ok (.iload 4, 2) := by decide +kernel
theorem dX14_valueOf_36 : decode cX14_valueOf 36 = .ok (.ireturn, 1) := by decide +kernel
theorem dX14_valueOf_37 : decode cX14_valueOf 37 = .ok (.iload_n 3, 1) := by decide +kernel
theorem dX14_valueOf_38 : decode cX14_valueOf 38 = .ok (.iconst 1, 1) := by decide +kernel
theorem dX14_valueOf_39 : decode cX14_valueOf 39 = .ok (.if_icmp .ne 17, 3) := by decide +kernel
theorem dX14_valueOf_42 : decode cX14_valueOf 42 = .ok (.iload 4, 2) := by decide +kernel
theorem dX14_valueOf_44 : decode cX14_valueOf 44 = .ok (.ifCond .ge 12, 3) := by decide +kernel
theorem dX14_valueOf_47 : decode cX14_valueOf 47 = .ok (.iload 5, 2) := by decide +kernel
theorem dX14_valueOf_49 : decode cX14_valueOf 49 = .ok (.ifCond .le 7, 3) := by decide +kernel
theorem dX14_valueOf_52 : decode cX14_valueOf 52 = .ok (.iconst 0, 1) := by decide +kernel
theorem dX14_valueOf_53 : decode cX14_valueOf 53 = .ok (.goto 5, 3) := by decide +kernel
theorem dX14_valueOf_56 : decode cX14_valueOf 56 = .ok (.iload 5, 2) := by decide +kernel
theorem dX14_valueOf_58 : decode cX14_valueOf 58 = .ok (.ireturn, 1) := by decide +kernel
theorem dX14_keepRow_0 : decode cX14_keepRow 0 = .ok (.iconst 0, 1) := by decide +kernel
theorem dX14_keepRow_1 : decode cX14_keepRow 1 = .ok (.istore_n 1, 1) := by decide +kernel
theorem dX14_keepRow_2 : decode cX14_keepRow 2 = .ok (.iload_n 1, 1) := by decide +kernel
theorem dX14_keepRow_3 : decode cX14_keepRow 3 = .ok (.bipush 10, 2) := by decide +kernel
theorem dX14_keepRow_5 : decode cX14_keepRow 5 = .ok (.if_icmp .ge 33, 3) := by decide +kernel
theorem dX14_keepRow_8 : decode cX14_keepRow 8 = .ok (.aload_n 0, 1) := by decide +kernel
theorem dX14_keepRow_9 : decode cX14_keepRow 9 = .ok (.getfield 87, 3) := by decide +kernel
theorem dX14_keepRow_12 : decode cX14_keepRow 12 = .ok (.iload_n 1, 1) := by decide +kernel
theorem dX14_keepRow_13 : decode cX14_keepRow 13 = .ok (.aload_n 0, 1) := by decide +kernel
theorem dX14_keepRow_14 : decode cX14_keepRow 14 = .ok (.getfield 63, 3) := by decide +kernel
theorem dX14_keepRow_17 : decode cX14_keepRow 17 = .ok (.iload_n 1, 1) := by decide +kernel
theorem dX14_keepRow_18 : decode cX14_keepRow 18 = .ok (.iaload, 1) := by decide +kernel
theorem dX14_keepRow_19 : decode cX14_keepRow 19 = .ok (.iastore, 1) := by decide +kernel
theorem dX14_keepRow_20 : decode cX14_keepRow 20 = .ok (.aload_n 0, 1) := by decide +kernel
theorem dX14_keepRow_21 : decode cX14_keepRow 21 = .ok (.getfield 90, 3) := by decide +kernel
theorem dX14_keepRow_24 : decode cX14_keepRow 24 = .ok (.iload_n 1, 1) := by decide +kernel
theorem dX14_keepRow_25 : decode cX14_keepRow 25 = .ok (.aload_n 0, 1) := by decide +kernel
theorem dX14_keepRow_26 : decode cX14_keepRow 26 = .ok (.getfield 66, 3) := by decide +kernel
theorem dX14_keepRow_29 : decode cX14_keepRow 29 = .ok (.iload_n 1, 1) := by decide +kernel
theorem dX14_keepRow_30 : decode cX14_keepRow 30 = .ok (.iaload, 1) := by decide +kernel
theorem dX14_keepRow_31 : decode cX14_keepRow 31 = .ok (.iastore, 1) := by decide +kernel
theorem dX14_keepRow_32 : decode cX14_keepRow 32 = .ok (.iinc 1 1, 3) := by decide +kernel
theorem dX14_keepRow_35 : decode cX14_keepRow 35 = .ok (.goto (-33), 3) := by decide +kernel
theorem dX14_keepRow_38 : decode cX14_keepRow 38 = .ok (.iconst 0, 1) := by decide +kernel
theorem dX14_keepRow_39 : decode cX14_keepRow 39 = .ok (.istore_n 1, 1) := by decide +kernel
theorem dX14_keepRow_40 : decode cX14_keepRow 40 = .ok (.iload_n 1, 1) := by decide +kernel
theorem dX14_keepRow_41 : decode cX14_keepRow 41 = .ok (.bipush 30, 2) := by decide +kernel
theorem dX14_keepRow_43 : decode cX14_keepRow 43 = .ok (.if_icmp .ge 21, 3) := by decide +kernel
theorem dX14_keepRow_46 : decode cX14_keepRow 46 = .ok (.aload_n 0, 1) := by decide +kernel
theorem dX14_keepRow_47 : decode cX14_keepRow 47 = .ok (.getfield 93, 3) := by decide +kernel
theorem dX14_keepRow_50 : decode cX14_keepRow 50 = .ok (.iload_n 1, 1) := by decide +kernel
theorem dX14_keepRow_51 : decode cX14_keepRow 51 = .ok (.aload_n 0, 1) := by decide +kernel
theorem dX14_keepRow_52 : decode cX14_keepRow 52 = .ok (.getfield 69, 3) := by decide +kernel
theorem dX14_keepRow_55 : decode cX14_keepRow 55 = .ok (.iload_n 1, 1) := by decide +kernel
theorem dX14_keepRow_56 : decode cX14_keepRow 56 = .ok (.iaload, 1) := by decide +kernel
theorem dX14_keepRow_57 : decode cX14_keepRow 57 = .ok (.iastore, 1) := by decide +kernel
theorem dX14_keepRow_58 : decode cX14_keepRow 58 = .ok (.iinc 1 1, 3) := by decide +kernel
theorem dX14_keepRow_61 : decode cX14_keepRow 61 = .ok (.goto (-21), 3) := by decide +kernel
theorem dX14_keepRow_64 : decode cX14_keepRow 64 = .ok (.aload_n 0, 1) := by decide +kernel
theorem dX14_keepRow_65 : decode cX14_keepRow 65 = .ok (.aload_n 0, 1) := by decide +kernel
theorem dX14_keepRow_66 : decode cX14_keepRow 66 = .ok (.getfield 529, 3) := by decide +kernel
theorem dX14_keepRow_69 : decode cX14_keepRow 69 = .ok (.putfield 732, 3) := by decide +kernel
theorem dX14_keepRow_72 : decode cX14_keepRow 72 = .ok (.aload_n 0, 1) := by decide +kernel
theorem dX14_keepRow_73 : decode cX14_keepRow 73 = .ok (.aload_n 0, 1) := by decide +kernel
theorem dX14_keepRow_74 : decode cX14_keepRow 74 = .ok (.getfield 532, 3) := by decide +kernel
theorem dX14_keepRow_77 : decode cX14_keepRow 77 = .ok (.putfield 735, 3) := by decide +kernel
theorem dX14_keepRow_80 : decode cX14_keepRow 80 = .ok (.return_, 1) := by decide +kernel
