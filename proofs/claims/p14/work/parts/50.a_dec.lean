theorem dX12_losing_0 : decode cX12_losing 0 = .ok (.aload_n 0, 1) := by decide +kernel
theorem dX12_losing_1 : decode cX12_losing 1 = .ok (.iconst 0, 1) := by decide +kernel
theorem dX12_losing_2 : decode cX12_losing 2 = .ok (.invokevirtual 394, 3) := by decide +kernel
theorem dX12_losing_5 : decode cX12_losing 5 = .ok (.ifCond .ne 4, 3) := by decide +kernel
theorem dX12_losing_8 : decode cX12_losing 8 = .ok (.return_, 1) := by decide +kernel
theorem dX12_losing_9 : decode cX12_losing 9 = .ok (.aload_n 0, 1) := by decide +kernel
theorem dX12_losing_10 : decode cX12_losing 10 = .ok (.getfield 36, 3) := by decide +kernel
theorem dX12_losing_13 : decode cX12_losing 13 = .ok (.ifCond .ne 34, 3) := by decide +kernel
theorem dX12_losing_16 : decode cX12_losing 16 = .ok (.aload_n 0, 1) := by decide +kernel
theorem dX12_losing_17 : decode cX12_losing 17 = .ok (.getfield 20, 3) := by decide +kernel
theorem dX12_losing_20 : decode cX12_losing 20 = .ok (.iconst 1, 1) := by decide +kernel
theorem dX12_losing_21 : decode cX12_losing 21 = .ok (.if_icmp .ne 26, 3) := by decide +kernel
theorem dX12_losing_24 : decode cX12_losing 24 = .ok (.aload_n 0, 1) := by decide +kernel
theorem dX12_losing_25 : decode cX12_losing 25 = .ok (.aload_n 0, 1) := by decide +kernel
theorem dX12_losing_26 : decode cX12_losing 26 = .ok (.getfield 32, 3) := by decide +kernel
theorem dX12_losing_29 : decode cX12_losing 29 = .ok (.invokevirtual 387, 3) := by decide +kernel
theorem dX12_losing_32 : decode cX12_losing 32 = .ok (.ifCond .ne 15, 3) := by decide +kernel
theorem dX12_losing_35 : decode cX12_losing 35 = .ok (.aload_n 0, 1) := by decide +kernel
theorem dX12_losing_36 : decode cX12_losing 36 = .ok (.iconst 1, 1) := by decide +kernel
theorem dX12_losing_37 : decode cX12_losing 37 = .ok (.aload_n 0, 1) := by decide +kernel
theorem dX12_losing_38 : decode cX12_losing 38 = .ok (.getfield 32, 3) := by decide +kernel
theorem dX12_losing_41 : decode cX12_losing 41 = .ok (.invokevirtual 390, 3) := by decide +kernel
theorem dX12_losing_44 : decode cX12_losing 44 = .ok (.goto 4, 3) := by decide +kernel
theorem dX12_losing_47 : decode cX12_losing 47 = .ok (.iconst (-1), 1) := by decide +kernel
theorem dX12_losing_48 : decode cX12_losing 48 = .ok (.istore_n 1, 1) := by decide +kernel
theorem dX12_losing_49 : decode cX12_losing 49 = .ok (.iload_n 1, 1) := by decide +kernel
theorem dX12_losing_50 : decode cX12_losing 50 = .ok (.iconst (-1), 1) := by decide +kernel
theorem dX12_losing_51 : decode cX12_losing 51 = .ok (.if_icmp .eq 29, 3) := by decide +kernel
theorem dX12_losing_54 : decode cX12_losing 54 = .ok (.aload_n 0, 1) := by decide +kernel
theorem dX12_losing_55 : decode cX12_losing 55 = .ok (.getfield 77, 3) := by decide +kernel
theorem dX12_losing_58 : decode cX12_losing 58 = .ok (.bipush 10, 2) := by decide +kernel
theorem dX12_losing_60 : decode cX12_losing 60 = .ok (.aload_n 0, 1) := by decide +kernel
theorem dX12_losing_61 : decode cX12_losing 61 = .ok (.getfield 155, 3) := by decide +kernel
theorem dX12_losing_64 : decode cX12_losing 64 = .ok (.imul, 1) := by decide +kernel
theorem dX12_losing_65 : decode cX12_losing 65 = .ok (.iload_n 1, 1) := by decide +kernel
theorem dX12_losing_66 : decode cX12_losing 66 = .ok (.iadd, 1) := by decide +kernel
theorem dX12_losing_67 : decode cX12_losing 67 = .ok (.baload, 1) := by decide +kernel
theorem dX12_losing_68 : decode cX12_losing 68 = .ok (.ifCond .eq 12, 3) := by decide +kernel
theorem dX12_losing_71 : decode cX12_losing 71 = .ok (.aload_n 0, 1) := by decide +kernel
theorem dX12_losing_72 : decode cX12_losing 72 = .ok (.iconst 3, 1) := by decide +kernel
theorem dX12_losing_73 : decode cX12_losing 73 = .ok (.aload_n 0, 1) := by decide +kernel
theorem dX12_losing_74 : decode cX12_losing 74 = .ok (.getfield 23, 3) := by decide +kernel
theorem dX12_losing_77 : decode cX12_losing 77 = .ok (.invokevirtual 286, 3) := by decide +kernel
theorem dX12_losing_80 : decode cX12_losing 80 = .ok (.aload_n 0, 1) := by decide +kernel
theorem dX12_losing_81 : decode cX12_losing 81 = .ok (.iconst 1, 1) := by decide +kernel
theorem dX12_losing_82 : decode cX12_losing 82 = .ok (.invokevirtual 406, 3) := by decide +kernel
theorem dX12_losing_85 : decode cX12_losing 85 = .ok (.istore_n 1, 1) := by decide +kernel
theorem dX12_losing_86 : decode cX12_losing 86 = .ok (.aload_n 0, 1) := by decide +kernel
theorem dX12_losing_87 : decode cX12_losing 87 = .ok (.getfield 36, 3) := by decide +kernel
theorem dX12_losing_90 : decode cX12_losing 90 = .ok (.ifCond .ne 18, 3) := by decide +kernel
theorem dX12_losing_93 : decode cX12_losing 93 = .ok (.aload_n 0, 1) := by decide +kernel
theorem dX12_losing_94 : decode cX12_losing 94 = .ok (.getfield 77, 3) := by decide +kernel
theorem dX12_losing_97 : decode cX12_losing 97 = .ok (.bipush 10, 2) := by decide +kernel
theorem dX12_losing_99 : decode cX12_losing 99 = .ok (.aload_n 0, 1) := by decide +kernel
theorem dX12_losing_100 : decode cX12_losing 100 = .ok (.getfield 155, 3) := by decide +kernel
theorem dX12_losing_103 : decode cX12_losing 103 = .ok (.imul, 1) := by decide +kernel
theorem dX12_losing_104 : decode cX12_losing 104 = .ok (.iload_n 1, 1) := by decide +kernel
theorem dX12_losing_105 : decode cX12_losing 105 = .ok (.iadd, 1) := by decide +kernel
theorem dX12_losing_106 : decode cX12_losing 106 = .ok (.iconst 1, 1) := by decide +kernel
theorem dX12_losing_107 : decode cX12_losing 107 = .ok (.bastore, 1) := by decide +kernel
theorem dX12_losing_108 : decode cX12_losing 108 = .ok (.return_, 1) := by decide +kernel
