theorem dX12_having_0 : decode cX12_having 0 = .ok (.aload_n 0, 1) := by decide +kernel
theorem dX12_having_1 : decode cX12_having 1 = .ok (.iconst 0, 1) := by decide +kernel
theorem dX12_having_2 : decode cX12_having 2 = .ok (.invokevirtual 394, 3) := by decide +kernel
theorem dX12_having_5 : decode cX12_having 5 = .ok (.ifCond .ne 4, 3) := by decide +kernel
theorem dX12_having_8 : decode cX12_having 8 = .ok (.return_, 1) := by decide +kernel
theorem dX12_having_9 : decode cX12_having 9 = .ok (.aload_n 0, 1) := by decide +kernel
theorem dX12_having_10 : decode cX12_having 10 = .ok (.iconst 3, 1) := by decide +kernel
theorem dX12_having_11 : decode cX12_having 11 = .ok (.invokevirtual 406, 3) := by decide +kernel
theorem dX12_having_14 : decode cX12_having 14 = .ok (.istore_n 1, 1) := by decide +kernel
theorem dX12_having_15 : decode cX12_having 15 = .ok (.aload_n 0, 1) := by decide +kernel
theorem dX12_having_16 : decode cX12_having 16 = .ok (.getfield 36, 3) := by decide +kernel
theorem dX12_having_19 : decode cX12_having 19 = .ok (.ifCond .ne 34, 3) := by decide +kernel
theorem dX12_having_22 : decode cX12_having 22 = .ok (.aload_n 0, 1) := by decide +kernel
theorem dX12_having_23 : decode cX12_having 23 = .ok (.getfield 20, 3) := by decide +kernel
theorem dX12_having_26 : decode cX12_having 26 = .ok (.iconst 1, 1) := by decide +kernel
theorem dX12_having_27 : decode cX12_having 27 = .ok (.if_icmp .ne 26, 3) := by decide +kernel
theorem dX12_having_30 : decode cX12_having 30 = .ok (.aload_n 0, 1) := by decide +kernel
theorem dX12_having_31 : decode cX12_having 31 = .ok (.aload_n 0, 1) := by decide +kernel
theorem dX12_having_32 : decode cX12_having 32 = .ok (.getfield 32, 3) := by decide +kernel
theorem dX12_having_35 : decode cX12_having 35 = .ok (.invokevirtual 387, 3) := by decide +kernel
theorem dX12_having_38 : decode cX12_having 38 = .ok (.ifCond .ne 15, 3) := by decide +kernel
theorem dX12_having_41 : decode cX12_having 41 = .ok (.aload_n 0, 1) := by decide +kernel
theorem dX12_having_42 : decode cX12_having 42 = .ok (.iconst 2, 1) := by decide +kernel
theorem dX12_having_43 : decode cX12_having 43 = .ok (.aload_n 0, 1) := by decide +kernel
theorem dX12_having_44 : decode cX12_having 44 = .ok (.getfield 32, 3) := by decide +kernel
theorem dX12_having_47 : decode cX12_having 47 = .ok (.invokevirtual 390, 3) := by decide +kernel
theorem dX12_having_50 : decode cX12_having 50 = .ok (.goto 4, 3) := by decide +kernel
theorem dX12_having_53 : decode cX12_having 53 = .ok (.iconst (-1), 1) := by decide +kernel
theorem dX12_having_54 : decode cX12_having 54 = .ok (.istore_n 2, 1) := by decide +kernel
theorem dX12_having_55 : decode cX12_having 55 = .ok (.iload_n 2, 1) := by decide +kernel
theorem dX12_having_56 : decode cX12_having 56 = .ok (.iconst (-1), 1) := by decide +kernel
theorem dX12_having_57 : decode cX12_having 57 = .ok (.if_icmp .eq 30, 3) := by decide +kernel
theorem dX12_having_60 : decode cX12_having 60 = .ok (.aload_n 0, 1) := by decide +kernel
theorem dX12_having_61 : decode cX12_having 61 = .ok (.getfield 86, 3) := by decide +kernel
theorem dX12_having_64 : decode cX12_having 64 = .ok (.iconst 4, 1) := by decide +kernel
theorem dX12_having_65 : decode cX12_having 65 = .ok (.aload_n 0, 1) := by decide +kernel
theorem dX12_having_66 : decode cX12_having 66 = .ok (.getfield 155, 3) := by decide +kernel
theorem dX12_having_69 : decode cX12_having 69 = .ok (.imul, 1) := by decide +kernel
theorem dX12_having_70 : decode cX12_having 70 = .ok (.iload_n 2, 1) := by decide +kernel
theorem dX12_having_71 : decode cX12_having 71 = .ok (.iadd, 1) := by decide +kernel
theorem dX12_having_72 : decode cX12_having 72 = .ok (.iaload, 1) := by decide +kernel
theorem dX12_having_73 : decode cX12_having 73 = .ok (.bipush 10, 2) := by decide +kernel
theorem dX12_having_75 : decode cX12_having 75 = .ok (.if_icmp .ge 12, 3) := by decide +kernel
theorem dX12_having_78 : decode cX12_having 78 = .ok (.aload_n 0, 1) := by decide +kernel
theorem dX12_having_79 : decode cX12_having 79 = .ok (.iconst 3, 1) := by decide +kernel
theorem dX12_having_80 : decode cX12_having 80 = .ok (.aload_n 0, 1) := by decide +kernel
theorem dX12_having_81 : decode cX12_having 81 = .ok (.getfield 23, 3) := by decide +kernel
theorem dX12_having_84 : decode cX12_having 84 = .ok (.invokevirtual 286, 3) := by decide +kernel
theorem dX12_having_87 : decode cX12_having 87 = .ok (.aload_n 0, 1) := by decide +kernel
theorem dX12_having_88 : decode cX12_having 88 = .ok (.iconst 2, 1) := by decide +kernel
theorem dX12_having_89 : decode cX12_having 89 = .ok (.invokevirtual 406, 3) := by decide +kernel
theorem dX12_having_92 : decode cX12_having 92 = .ok (.istore_n 2, 1) := by decide +kernel
theorem dX12_having_93 : decode cX12_having 93 = .ok (.aload_n 0, 1) := by decide +kernel
theorem dX12_having_94 : decode cX12_having 94 = .ok (.getfield 36, 3) := by decide +kernel
theorem dX12_having_97 : decode cX12_having 97 = .ok (.ifCond .ne 17, 3) := by decide +kernel
theorem dX12_having_100 : decode cX12_having 100 = .ok (.aload_n 0, 1) := by decide +kernel
theorem dX12_having_101 : decode cX12_having 101 = .ok (.getfield 86, 3) := by decide +kernel
theorem dX12_having_104 : decode cX12_having 104 = .ok (.iconst 4, 1) := by decide +kernel
theorem dX12_having_105 : decode cX12_having 105 = .ok (.aload_n 0, 1) := by decide +kernel
theorem dX12_having_106 : decode cX12_having 106 = .ok (.getfield 155, 3) := by decide +kernel
theorem dX12_having_109 : decode cX12_having 109 = .ok (.imul, 1) := by decide +kernel
theorem dX12_having_110 : decode cX12_having 110 = .ok (.iload_n 2, 1) := by decide +kernel
theorem dX12_having_111 : decode cX12_having 111 = .ok (.iadd, 1) := by decide +kernel
theorem dX12_having_112 : decode cX12_having 112 = .ok (.iload_n 1, 1) := by decide +kernel
theorem dX12_having_113 : decode cX12_having 113 = .ok (.iastore, 1) := by decide +kernel
theorem dX12_having_114 : decode cX12_having 114 = .ok (.return_, 1) := by decide +kernel
