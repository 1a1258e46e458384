theorem dX12_person_0 : decode cX12_person 0 = .ok (.aload_n 0, 1) := by decide +kernel
theorem dX12_person_1 : decode cX12_person 1 = .ok (.aload_n 0, 1) := by decide +kernel
theorem dX12_person_2 : decode cX12_person 2 = .ok (.getfield 95, 3) := by decide +kernel
theorem dX12_person_5 : decode cX12_person 5 = .ok (.aload_n 0, 1) := by decide +kernel
theorem dX12_person_6 : decode cX12_person 6 = .ok (.getfield 155, 3) := by decide +kernel
theorem dX12_person_9 : decode cX12_person 9 = .ok (.iaload, 1) := by decide +kernel
theorem dX12_person_10 : decode cX12_person 10 = .ok (.iconst 3, 1) := by decide +kernel
theorem dX12_person_11 : decode cX12_person 11 = .ok (.if_icmp .ne 7, 3) := by decide +kernel
theorem dX12_person_14 : decode cX12_person 14 = .ok (.iconst 1, 1) := by decide +kernel
theorem dX12_person_15 : decode cX12_person 15 = .ok (.goto 4, 3) := by decide +kernel
theorem dX12_person_18 : decode cX12_person 18 = .ok (.iconst 0, 1) := by decide +kernel
theorem dX12_person_19 : decode cX12_person 19 = .ok (.invokevirtual 394, 3) := by decide +kernel
theorem dX12_person_22 : decode cX12_person 22 = .ok (.ifCond .ne 4, 3) := by decide +kernel
theorem dX12_person_25 : decode cX12_person 25 = .ok (.return_, 1) := by decide +kernel
theorem dX12_person_26 : decode cX12_person 26 = .ok (.iconst 3, 1) := by decide +kernel
theorem dX12_person_27 : decode cX12_person 27 = .ok (.aload_n 0, 1) := by decide +kernel
theorem dX12_person_28 : decode cX12_person 28 = .ok (.getfield 155, 3) := by decide +kernel
theorem dX12_person_31 : decode cX12_person 31 = .ok (.imul, 1) := by decide +kernel
theorem dX12_person_32 : decode cX12_person 32 = .ok (.aload_n 0, 1) := by decide +kernel
theorem dX12_person_33 : decode cX12_person 33 = .ok (.getfield 95, 3) := by decide +kernel
theorem dX12_person_36 : decode cX12_person 36 = .ok (.aload_n 0, 1) := by decide +kernel
theorem dX12_person_37 : decode cX12_person 37 = .ok (.getfield 155, 3) := by decide +kernel
theorem dX12_person_40 : decode cX12_person 40 = .ok (.iaload, 1) := by decide +kernel
theorem dX12_person_41 : decode cX12_person 41 = .ok (.iadd, 1) := by decide +kernel
theorem dX12_person_42 : decode cX12_person 42 = .ok (.istore_n 1, 1) := by decide +kernel
theorem dX12_person_43 : decode cX12_person 43 = .ok (.aload_n 0, 1) := by decide +kernel
theorem dX12_person_44 : decode cX12_person 44 = .ok (.getfield 98, 3) := by decide +kernel
theorem dX12_person_47 : decode cX12_person 47 = .ok (.iload_n 1, 1) := by decide +kernel
theorem dX12_person_48 : decode cX12_person 48 = .ok (.aload_n 0, 1) := by decide +kernel
theorem dX12_person_49 : decode cX12_person 49 = .ok (.invokevirtual 398, 3) := by decide +kernel
theorem dX12_person_52 : decode cX12_person 52 = .ok (.lastore, 1) := by decide +kernel
theorem dX12_person_53 : decode cX12_person 53 = .ok (.aload_n 0, 1) := by decide +kernel
theorem dX12_person_54 : decode cX12_person 54 = .ok (.ldc2_w 302, 3) := by decide +kernel
theorem dX12_person_57 : decode cX12_person 57 = .ok (.invokevirtual 402, 3) := by decide +kernel
theorem dX12_person_60 : decode cX12_person 60 = .ok (.aload_n 0, 1) := by decide +kernel
theorem dX12_person_61 : decode cX12_person 61 = .ok (.getfield 101, 3) := by decide +kernel
theorem dX12_person_64 : decode cX12_person 64 = .ok (.iload_n 1, 1) := by decide +kernel
theorem dX12_person_65 : decode cX12_person 65 = .ok (.aload_n 0, 1) := by decide +kernel
theorem dX12_person_66 : decode cX12_person 66 = .ok (.iconst 0, 1) := by decide +kernel
theorem dX12_person_67 : decode cX12_person 67 = .ok (.invokevirtual 406, 3) := by decide +kernel
theorem dX12_person_70 : decode cX12_person 70 = .ok (.iastore, 1) := by decide +kernel
theorem dX12_person_71 : decode cX12_person 71 = .ok (.aload_n 0, 1) := by decide +kernel
theorem dX12_person_72 : decode cX12_person 72 = .ok (.getfield 36, 3) := by decide +kernel
theorem dX12_person_75 : decode cX12_person 75 = .ok (.ifCond .ne 16, 3) := by decide +kernel
theorem dX12_person_78 : decode cX12_person 78 = .ok (.aload_n 0, 1) := by decide +kernel
theorem dX12_person_79 : decode cX12_person 79 = .ok (.getfield 95, 3) := by decide +kernel
theorem dX12_person_82 : decode cX12_person 82 = .ok (.aload_n 0, 1) := by decide +kernel
theorem dX12_person_83 : decode cX12_person 83 = .ok (.getfield 155, 3) := by decide +kernel
theorem dX12_person_86 : decode cX12_person 86 = .ok (.dup2, 1) := by decide +kernel
theorem dX12_person_87 : decode cX12_person 87 = .ok (.iaload, 1) := by decide +kernel
theorem dX12_person_88 : decode cX12_person 88 = .ok (.iconst 1, 1) := by decide +kernel
theorem dX12_person_89 : decode cX12_person 89 = .ok (.iadd, 1) := by decide +kernel
theorem dX12_person_90 : decode cX12_person 90 = .ok (.iastore, 1) := by decide +kernel
theorem dX12_person_91 : decode cX12_person 91 = .ok (.return_, 1) := by decide +kernel
