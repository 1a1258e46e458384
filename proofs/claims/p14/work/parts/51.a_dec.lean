theorem dX12_key_0 : decode cX12_key 0 = .ok (.aload_n 0, 1) := by decide +kernel
theorem dX12_key_1 : decode cX12_key 1 = .ok (.aload_n 0, 1) := by decide +kernel
theorem dX12_key_2 : decode cX12_key 2 = .ok (.getfield 80, 3) := by decide +kernel
theorem dX12_key_5 : decode cX12_key 5 = .ok (.aload_n 0, 1) := by decide +kernel
theorem dX12_key_6 : decode cX12_key 6 = .ok (.getfield 155, 3) := by decide +kernel
theorem dX12_key_9 : decode cX12_key 9 = .ok (.iaload, 1) := by decide +kernel
theorem dX12_key_10 : decode cX12_key 10 = .ok (.iconst 4, 1) := by decide +kernel
theorem dX12_key_11 : decode cX12_key 11 = .ok (.if_icmp .ne 7, 3) := by decide +kernel
theorem dX12_key_14 : decode cX12_key 14 = .ok (.iconst 1, 1) := by decide +kernel
theorem dX12_key_15 : decode cX12_key 15 = .ok (.goto 4, 3) := by decide +kernel
theorem dX12_key_18 : decode cX12_key 18 = .ok (.iconst 0, 1) := by decide +kernel
theorem dX12_key_19 : decode cX12_key 19 = .ok (.invokevirtual 394, 3) := by decide +kernel
theorem dX12_key_22 : decode cX12_key 22 = .ok (.ifCond .ne 4, 3) := by decide +kernel
theorem dX12_key_25 : decode cX12_key 25 = .ok (.return_, 1) := by decide +kernel
theorem dX12_key_26 : decode cX12_key 26 = .ok (.iconst 4, 1) := by decide +kernel
theorem dX12_key_27 : decode cX12_key 27 = .ok (.aload_n 0, 1) := by decide +kernel
theorem dX12_key_28 : decode cX12_key 28 = .ok (.getfield 155, 3) := by decide +kernel
theorem dX12_key_31 : decode cX12_key 31 = .ok (.imul, 1) := by decide +kernel
theorem dX12_key_32 : decode cX12_key 32 = .ok (.aload_n 0, 1) := by decide +kernel
theorem dX12_key_33 : decode cX12_key 33 = .ok (.getfield 80, 3) := by decide +kernel
theorem dX12_key_36 : decode cX12_key 36 = .ok (.aload_n 0, 1) := by decide +kernel
theorem dX12_key_37 : decode cX12_key 37 = .ok (.getfield 155, 3) := by decide +kernel
theorem dX12_key_40 : decode cX12_key 40 = .ok (.iaload, 1) := by decide +kernel
theorem dX12_key_41 : decode cX12_key 41 = .ok (.iadd, 1) := by decide +kernel
theorem dX12_key_42 : decode cX12_key 42 = .ok (.istore_n 1, 1) := by decide +kernel
theorem dX12_key_43 : decode cX12_key 43 = .ok (.aload_n 0, 1) := by decide +kernel
theorem dX12_key_44 : decode cX12_key 44 = .ok (.getfield 83, 3) := by decide +kernel
theorem dX12_key_47 : decode cX12_key 47 = .ok (.iload_n 1, 1) := by decide +kernel
theorem dX12_key_48 : decode cX12_key 48 = .ok (.aload_n 0, 1) := by decide +kernel
theorem dX12_key_49 : decode cX12_key 49 = .ok (.invokevirtual 398, 3) := by decide +kernel
theorem dX12_key_52 : decode cX12_key 52 = .ok (.lastore, 1) := by decide +kernel
theorem dX12_key_53 : decode cX12_key 53 = .ok (.aload_n 0, 1) := by decide +kernel
theorem dX12_key_54 : decode cX12_key 54 = .ok (.getfield 86, 3) := by decide +kernel
theorem dX12_key_57 : decode cX12_key 57 = .ok (.iload_n 1, 1) := by decide +kernel
theorem dX12_key_58 : decode cX12_key 58 = .ok (.aload_n 0, 1) := by decide +kernel
theorem dX12_key_59 : decode cX12_key 59 = .ok (.invokevirtual 415, 3) := by decide +kernel
theorem dX12_key_62 : decode cX12_key 62 = .ok (.iastore, 1) := by decide +kernel
theorem dX12_key_63 : decode cX12_key 63 = .ok (.aload_n 0, 1) := by decide +kernel
theorem dX12_key_64 : decode cX12_key 64 = .ok (.getfield 89, 3) := by decide +kernel
theorem dX12_key_67 : decode cX12_key 67 = .ok (.iload_n 1, 1) := by decide +kernel
theorem dX12_key_68 : decode cX12_key 68 = .ok (.iconst 0, 1) := by decide +kernel
theorem dX12_key_69 : decode cX12_key 69 = .ok (.iastore, 1) := by decide +kernel
theorem dX12_key_70 : decode cX12_key 70 = .ok (.aload_n 0, 1) := by decide +kernel
theorem dX12_key_71 : decode cX12_key 71 = .ok (.getfield 36, 3) := by decide +kernel
theorem dX12_key_74 : decode cX12_key 74 = .ok (.ifCond .ne 16, 3) := by decide +kernel
theorem dX12_key_77 : decode cX12_key 77 = .ok (.aload_n 0, 1) := by decide +kernel
theorem dX12_key_78 : decode cX12_key 78 = .ok (.getfield 80, 3) := by decide +kernel
theorem dX12_key_81 : decode cX12_key 81 = .ok (.aload_n 0, 1) := by decide +kernel
theorem dX12_key_82 : decode cX12_key 82 = .ok (.getfield 155, 3) := by decide +kernel
theorem dX12_key_85 : decode cX12_key 85 = .ok (.dup2, 1) := by decide +kernel
theorem dX12_key_86 : decode cX12_key 86 = .ok (.iaload, 1) := by decide +kernel
theorem dX12_key_87 : decode cX12_key 87 = .ok (.iconst 1, 1) := by decide +kernel
theorem dX12_key_88 : decode cX12_key 88 = .ok (.iadd, 1) := by decide +kernel
theorem dX12_key_89 : decode cX12_key 89 = .ok (.iastore, 1) := by decide +kernel
theorem dX12_key_90 : decode cX12_key 90 = .ok (.return_, 1) := by decide +kernel
