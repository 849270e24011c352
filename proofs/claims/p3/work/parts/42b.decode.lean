theorem dX14_node_0 : decode cX14_node 0 = .ok (.aload_n 0, 1) := by decide +kernel
theorem dX14_node_1 : decode cX14_node 1 = .ok (.getfield 23, 3) := by decide +kernel
theorem dX14_node_4 : decode cX14_node 4 = .ok (.getfield 211, 3) := by decide +kernel
theorem dX14_node_7 : decode cX14_node 7 = .ok (.istore 5, 2) := by decide +kernel
theorem dX14_node_9 : decode cX14_node 9 = .ok (.aload_n 0, 1) := by decide +kernel
theorem dX14_node_10 : decode cX14_node 10 = .ok (.getfield 23, 3) := by decide +kernel
theorem dX14_node_13 : decode cX14_node 13 = .ok (.getfield 214, 3) := by decide +kernel
theorem dX14_node_16 : decode cX14_node 16 = .ok (.iload 5, 2) := by decide +kernel
theorem dX14_node_18 : decode cX14_node 18 = .ok (.iload_n 1, 1) := by decide +kernel
theorem dX14_node_19 : decode cX14_node 19 = .ok (.iastore, 1) := by decide +kernel
theorem dX14_node_20 : decode cX14_node 20 = .ok (.aload_n 0, 1) := by decide +kernel
theorem dX14_node_21 : decode cX14_node 21 = .ok (.getfield 23, 3) := by decide +kernel
theorem dX14_node_24 : decode cX14_node 24 = .ok (.getfield 217, 3) := by decide +kernel
theorem dX14_node_27 : decode cX14_node 27 = .ok (.iload 5, 2) := by decide +kernel
theorem dX14_node_29 : decode cX14_node 29 = .ok (.iload_n 2, 1) := by decide +kernel
theorem dX14_node_30 : decode cX14_node 30 = .ok (.iastore, 1) := by decide +kernel
theorem dX14_node_31 : decode cX14_node 31 = .ok (.aload_n 0, 1) := by decide +kernel
theorem dX14_node_32 : decode cX14_node 32 = .ok (.getfield 23, 3) := by decide +kernel
theorem dX14_node_35 : decode cX14_node 35 = .ok (.getfield 220, 3) := by decide +kernel
theorem dX14_node_38 : decode cX14_node 38 = .ok (.iload 5, 2) := by decide +kernel
theorem dX14_node_40 : decode cX14_node 40 = .ok (.iload_n 3, 1) := by decide +kernel
theorem dX14_node_41 : decode cX14_node 41 = .ok (.iastore, 1) := by decide +kernel
theorem dX14_node_42 : decode cX14_node 42 = .ok (.aload_n 0, 1) := by decide +kernel
theorem dX14_node_43 : decode cX14_node 43 = .ok (.getfield 23, 3) := by decide +kernel
theorem dX14_node_46 : decode cX14_node 46 = .ok (.getfield 223, 3) := by decide +kernel
theorem dX14_node_49 : decode cX14_node 49 = .ok (.iload 5, 2) := by decide +kernel
theorem dX14_node_51 : decode cX14_node 51 = .ok (.iconst (-1), 1) := by decide +kernel
theorem dX14_node_52 : decode cX14_node 52 = .ok (.iastore, 1) := by decide +kernel
theorem dX14_node_53 : decode cX14_node 53 = .ok (.aload_n 0, 1) := by decide +kernel
theorem dX14_node_54 : decode cX14_node 54 = .ok (.getfield 23, 3) := by decide +kernel
theorem dX14_node_57 : decode cX14_node 57 = .ok (.getfield 226, 3) := by decide +kernel
theorem dX14_node_60 : decode cX14_node 60 = .ok (.iload 5, 2) := by decide +kernel
theorem dX14_node_62 : decode cX14_node 62 = .ok (.iload 4, 2) := by decide +kernel
theorem dX14_node_64 : decode cX14_node 64 = .ok (.iastore, 1) := by decide +kernel
theorem dX14_node_65 : decode cX14_node 65 = .ok (.aload_n 0, 1) := by decide +kernel
theorem dX14_node_66 : decode cX14_node 66 = .ok (.getfield 23, 3) := by decide +kernel
theorem dX14_node_69 : decode cX14_node 69 = .ok (.getfield 229, 3) := by decide +kernel
theorem dX14_node_72 : decode cX14_node 72 = .ok (.iload 5, 2) := by decide +kernel
theorem dX14_node_74 : decode cX14_node 74 = .ok (.iconst 0, 1) := by decide +kernel
theorem dX14_node_75 : decode cX14_node 75 = .ok (.iastore, 1) := by decide +kernel
theorem dX14_node_76 : decode cX14_node 76 = .ok (.aload_n 0, 1) := by decide +kernel
theorem dX14_node_77 : decode cX14_node 77 = .ok (.getfield 23, 3) := by decide +kernel
theorem dX14_node_80 : decode cX14_node 80 = .ok (.getfield 232, 3) := by decide +kernel
theorem dX14_node_83 : decode cX14_node 83 = .ok (.iload 5, 2) := by decide +kernel
theorem dX14_node_85 : decode cX14_node 85 = .ok (.aload_n 0, 1) := by decide +kernel
theorem dX14_node_86 : decode cX14_node 86 = .ok (.getfield 201, 3) := by decide +kernel
theorem dX14_node_89 : decode cX14_node 89 = .ok (.iastore, 1) := by decide +kernel
theorem dX14_node_90 : decode cX14_node 90 = .ok (.aload_n 0, 1) := by decide +kernel
theorem dX14_node_91 : decode cX14_node 91 = .ok (.getfield 23, 3) := by decide +kernel
theorem dX14_node_94 : decode cX14_node 94 = .ok (.getfield 235, 3) := by decide +kernel
theorem dX14_node_97 : decode cX14_node 97 = .ok (.iload 5, 2) := by decide +kernel
theorem dX14_node_99 : decode cX14_node 99 = .ok (.lconst 0, 1) := by decide +kernel
theorem dX14_node_100 : decode cX14_node 100 = .ok (.lastore, 1) := by decide +kernel
theorem dX14_node_101 : decode cX14_node 101 = .ok (.aload_n 0, 1) := by decide +kernel
theorem dX14_node_102 : decode cX14_node 102 = .ok (.getfield 23, 3) := by decide +kernel
theorem dX14_node_105 : decode cX14_node 105 = .ok (.getfield 238, 3) := by decide +kernel
theorem dX14_node_108 : decode cX14_node 108 = .ok (.iload 5, 2) := by decide +kernel
theorem dX14_node_110 : decode cX14_node 110 = .ok (.lconst 0, 1) := by decide +kernel
theorem dX14_node_111 : decode cX14_node 111 = .ok (.lastore, 1) := by decide +kernel
theorem dX14_node_112 : decode cX14_node 112 = .ok (.aload_n 0, 1) := by decide +kernel
theorem dX14_node_113 : decode cX14_node 113 = .ok (.getfield 23, 3) := by decide +kernel
theorem dX14_node_116 : decode cX14_node 116 = .ok (.dup, 1) := by decide +kernel
theorem dX14_node_117 : decode cX14_node 117 = .ok (.getfield 211, 3) := by decide +kernel
theorem dX14_node_120 : decode cX14_node 120 = .ok (.iconst 1, 1) := by decide +kernel
theorem dX14_node_121 : decode cX14_node 121 = .ok (.iadd, 1) := by decide +kernel
theorem dX14_node_122 : decode cX14_node 122 = .ok (.putfield 211, 3) := by decide +kernel
theorem dX14_node_125 : decode cX14_node 125 = .ok (.iload 5, 2) := by decide +kernel
theorem dX14_node_127 : decode cX14_node 127 = .ok (.ireturn, 1) := by decide +kernel
theorem dX14_closing_0 : decode cX14_closing 0 = .ok (.aload_n 0, 1) := by decide +kernel
theorem dX14_closing_1 : decode cX14_closing 1 = .ok (.iload_n 1, 1) := by decide +kernel
theorem dX14_closing_2 : decode cX14_closing 2 = .ok (.invokevirtual 267, 3) := by decide +kernel
theorem dX14_closing_5 : decode cX14_closing 5 = .ok (.aload_n 0, 1) := by decide +kernel
theorem dX14_closing_6 : decode cX14_closing 6 = .ok (.dup, 1) := by decide +kernel
theorem dX14_closing_7 : decode cX14_closing 7 = .ok (.getfield 241, 3) := by decide +kernel
theorem dX14_closing_10 : decode cX14_closing 10 = .ok (.iconst 1, 1) := by decide +kernel
theorem dX14_closing_11 : decode cX14_closing 11 = .ok (.isub, 1) := by decide +kernel
theorem dX14_closing_12 : decode cX14_closing 12 = .ok (.putfield 241, 3) := by decide +kernel
theorem dX14_closing_15 : decode cX14_closing 15 = .ok (.return_, 1) := by decide +kernel
