theorem dX14_readEx_0 : decode cX14_readEx 0 = .ok (.aload_n 0, 1) := by decide +kernel
theorem dX14_readEx_1 : decode cX14_readEx 1 = .ok (.getfield 241, 3) := by decide +kernel
theorem dX14_readEx_4 : decode cX14_readEx 4 = .ok (.istore_n 1, 1) := by decide +kernel
theorem dX14_readEx_5 : decode cX14_readEx 5 = .ok (.aload_n 0, 1) := by decide +kernel
theorem dX14_readEx_6 : decode cX14_readEx 6 = .ok (.iconst 0, 1) := by decide +kernel
theorem dX14_readEx_7 : decode cX14_readEx 7 = .ok (.putfield 241, 3) := by decide +kernel
theorem dX14_readEx_10 : decode cX14_readEx 10 = .ok (.aload_n 0, 1) := by decide +kernel
theorem dX14_readEx_11 : decode cX14_readEx 11 = .ok (.iconst 1, 1) := by decide +kernel
theorem dX14_readEx_12 : decode cX14_readEx 12 = .ok (.invokevirtual 244, 3) := by decide +kernel
theorem dX14_readEx_15 : decode cX14_readEx 15 = .ok (.istore_n 2, 1) := by decide +kernel
theorem dX14_readEx_16 : decode cX14_readEx 16 = .ok (.aload_n 0, 1) := by decide +kernel
theorem dX14_readEx_17 : decode cX14_readEx 17 = .ok (.iload_n 1, 1) := by decide +kernel
theorem dX14_readEx_18 : decode cX14_readEx 18 = .ok (.putfield 241, 3) := by decide +kernel
theorem dX14_readEx_21 : decode cX14_readEx 21 = .ok (.iload_n 2, 1) := by decide +kernel
theorem dX14_readEx_22 : decode cX14_readEx 22 = .ok (.ireturn, 1) := by decide +kernel
