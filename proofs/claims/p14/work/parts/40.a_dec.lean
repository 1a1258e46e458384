theorem dX12_comes_0 : decode cX12_comes 0 = .ok (.aload_n 0, 1) := by decide +kernel
theorem dX12_comes_1 : decode cX12_comes 1 = .ok (.invokevirtual 570, 3) := by decide +kernel
theorem dX12_comes_4 : decode cX12_comes 4 = .ok (.aload_n 0, 1) := by decide +kernel
theorem dX12_comes_5 : decode cX12_comes 5 = .ok (.invokevirtual 573, 3) := by decide +kernel
theorem dX12_comes_8 : decode cX12_comes 8 = .ok (.istore_n 2, 1) := by decide +kernel
theorem dX12_comes_9 : decode cX12_comes 9 = .ok (.aload_n 0, 1) := by decide +kernel
theorem dX12_comes_10 : decode cX12_comes 10 = .ok (.getfield 208, 3) := by decide +kernel
theorem dX12_comes_13 : decode cX12_comes 13 = .ok (.iload_n 2, 1) := by decide +kernel
theorem dX12_comes_14 : decode cX12_comes 14 = .ok (.iaload, 1) := by decide +kernel
theorem dX12_comes_15 : decode cX12_comes 15 = .ok (.iconst (-1), 1) := by decide +kernel
theorem dX12_comes_16 : decode cX12_comes 16 = .ok (.if_icmp .eq 4, 3) := by decide +kernel
theorem dX12_comes_19 : decode cX12_comes 19 = .ok (.return_, 1) := by decide +kernel
theorem dX12_comes_20 : decode cX12_comes 20 = .ok (.aload_n 0, 1) := by decide +kernel
theorem dX12_comes_21 : decode cX12_comes 21 = .ok (.getfield 208, 3) := by decide +kernel
theorem dX12_comes_24 : decode cX12_comes 24 = .ok (.iload_n 2, 1) := by decide +kernel
theorem dX12_comes_25 : decode cX12_comes 25 = .ok (.iload_n 1, 1) := by decide +kernel
theorem dX12_comes_26 : decode cX12_comes 26 = .ok (.iastore, 1) := by decide +kernel
theorem dX12_comes_27 : decode cX12_comes 27 = .ok (.aload_n 0, 1) := by decide +kernel
theorem dX12_comes_28 : decode cX12_comes 28 = .ok (.getfield 211, 3) := by decide +kernel
theorem dX12_comes_31 : decode cX12_comes 31 = .ok (.aload_n 0, 1) := by decide +kernel
theorem dX12_comes_32 : decode cX12_comes 32 = .ok (.getfield 214, 3) := by decide +kernel
theorem dX12_comes_35 : decode cX12_comes 35 = .ok (.iload_n 2, 1) := by decide +kernel
theorem dX12_comes_36 : decode cX12_comes 36 = .ok (.iastore, 1) := by decide +kernel
theorem dX12_comes_37 : decode cX12_comes 37 = .ok (.aload_n 0, 1) := by decide +kernel
theorem dX12_comes_38 : decode cX12_comes 38 = .ok (.dup, 1) := by decide +kernel
theorem dX12_comes_39 : decode cX12_comes 39 = .ok (.getfield 214, 3) := by decide +kernel
theorem dX12_comes_42 : decode cX12_comes 42 = .ok (.iconst 1, 1) := by decide +kernel
theorem dX12_comes_43 : decode cX12_comes 43 = .ok (.iadd, 1) := by decide +kernel
theorem dX12_comes_44 : decode cX12_comes 44 = .ok (.putfield 214, 3) := by decide +kernel
theorem dX12_comes_47 : decode cX12_comes 47 = .ok (.return_, 1) := by decide +kernel
