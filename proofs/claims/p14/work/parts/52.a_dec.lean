theorem dX12_thing_0 : decode cX12_thing 0 = .ok (.aload_n 0, 1) := by decide +kernel
theorem dX12_thing_1 : decode cX12_thing 1 = .ok (.aload_n 0, 1) := by decide +kernel
theorem dX12_thing_2 : decode cX12_thing 2 = .ok (.getfield 104, 3) := by decide +kernel
theorem dX12_thing_5 : decode cX12_thing 5 = .ok (.aload_n 0, 1) := by decide +kernel
theorem dX12_thing_6 : decode cX12_thing 6 = .ok (.getfield 155, 3) := by decide +kernel
theorem dX12_thing_9 : decode cX12_thing 9 = .ok (.iaload, 1) := by decide +kernel
theorem dX12_thing_10 : decode cX12_thing 10 = .ok (.iconst 4, 1) := by decide +kernel
theorem dX12_thing_11 : decode cX12_thing 11 = .ok (.if_icmp .ne 7, 3) := by decide +kernel
theorem dX12_thing_14 : decode cX12_thing 14 = .ok (.iconst 1, 1) := by decide +kernel
theorem dX12_thing_15 : decode cX12_thing 15 = .ok (.goto 4, 3) := by decide +kernel
theorem dX12_thing_18 : decode cX12_thing 18 = .ok (.iconst 0, 1) := by decide +kernel
theorem dX12_thing_19 : decode cX12_thing 19 = .ok (.invokevirtual 394, 3) := by decide +kernel
theorem dX12_thing_22 : decode cX12_thing 22 = .ok (.ifCond .ne 4, 3) := by decide +kernel
theorem dX12_thing_25 : decode cX12_thing 25 = .ok (.return_, 1) := by decide +kernel
theorem dX12_thing_26 : decode cX12_thing 26 = .ok (.iconst 4, 1) := by decide +kernel
theorem dX12_thing_27 : decode cX12_thing 27 = .ok (.aload_n 0, 1) := by decide +kernel
theorem dX12_thing_28 : decode cX12_thing 28 = .ok (.getfield 155, 3) := by decide +kernel
theorem dX12_thing_31 : decode cX12_thing 31 = .ok (.imul, 1) := by decide +kernel
theorem dX12_thing_32 : decode cX12_thing 32 = .ok (.aload_n 0, 1) := by decide +kernel
theorem dX12_thing_33 : decode cX12_thing 33 = .ok (.getfield 104, 3) := by decide +kernel
theorem dX12_thing_36 : decode cX12_thing 36 = .ok (.aload_n 0, 1) := by decide +kernel
theorem dX12_thing_37 : decode cX12_thing 37 = .ok (.getfield 155, 3) := by decide +kernel
theorem dX12_thing_40 : decode cX12_thing 40 = .ok (.iaload, 1) := by decide +kernel
theorem dX12_thing_41 : decode cX12_thing 41 = .ok (.iadd, 1) := by decide +kernel
theorem dX12_thing_42 : decode cX12_thing 42 = .ok (.istore_n 1, 1) := by decide +kernel
theorem dX12_thing_43 : decode cX12_thing 43 = .ok (.aload_n 0, 1) := by decide +kernel
theorem dX12_thing_44 : decode cX12_thing 44 = .ok (.getfield 107, 3) := by decide +kernel
theorem dX12_thing_47 : decode cX12_thing 47 = .ok (.iload_n 1, 1) := by decide +kernel
theorem dX12_thing_48 : decode cX12_thing 48 = .ok (.aload_n 0, 1) := by decide +kernel
theorem dX12_thing_49 : decode cX12_thing 49 = .ok (.invokevirtual 398, 3) := by decide +kernel
theorem dX12_thing_52 : decode cX12_thing 52 = .ok (.lastore, 1) := by decide +kernel
theorem dX12_thing_53 : decode cX12_thing 53 = .ok (.aload_n 0, 1) := by decide +kernel
theorem dX12_thing_54 : decode cX12_thing 54 = .ok (.getfield 110, 3) := by decide +kernel
theorem dX12_thing_57 : decode cX12_thing 57 = .ok (.iload_n 1, 1) := by decide +kernel
theorem dX12_thing_58 : decode cX12_thing 58 = .ok (.aload_n 0, 1) := by decide +kernel
theorem dX12_thing_59 : decode cX12_thing 59 = .ok (.invokevirtual 415, 3) := by decide +kernel
theorem dX12_thing_62 : decode cX12_thing 62 = .ok (.iastore, 1) := by decide +kernel
theorem dX12_thing_63 : decode cX12_thing 63 = .ok (.aload_n 0, 1) := by decide +kernel
theorem dX12_thing_64 : decode cX12_thing 64 = .ok (.getfield 36, 3) := by decide +kernel
theorem dX12_thing_67 : decode cX12_thing 67 = .ok (.ifCond .ne 16, 3) := by decide +kernel
theorem dX12_thing_70 : decode cX12_thing 70 = .ok (.aload_n 0, 1) := by decide +kernel
theorem dX12_thing_71 : decode cX12_thing 71 = .ok (.getfield 104, 3) := by decide +kernel
theorem dX12_thing_74 : decode cX12_thing 74 = .ok (.aload_n 0, 1) := by decide +kernel
theorem dX12_thing_75 : decode cX12_thing 75 = .ok (.getfield 155, 3) := by decide +kernel
theorem dX12_thing_78 : decode cX12_thing 78 = .ok (.dup2, 1) := by decide +kernel
theorem dX12_thing_79 : decode cX12_thing 79 = .ok (.iaload, 1) := by decide +kernel
theorem dX12_thing_80 : decode cX12_thing 80 = .ok (.iconst 1, 1) := by decide +kernel
theorem dX12_thing_81 : decode cX12_thing 81 = .ok (.iadd, 1) := by decide +kernel
theorem dX12_thing_82 : decode cX12_thing 82 = .ok (.iastore, 1) := by decide +kernel
theorem dX12_thing_83 : decode cX12_thing 83 = .ok (.return_, 1) := by decide +kernel
