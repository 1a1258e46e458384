theorem dX12_mustBe_0 : decode cX12_mustBe 0 = .ok (.aload_n 0, 1) := by decide +kernel
theorem dX12_mustBe_1 : decode cX12_mustBe 1 = .ok (.aload_n 0, 1) := by decide +kernel
theorem dX12_mustBe_2 : decode cX12_mustBe 2 = .ok (.getfield 122, 3) := by decide +kernel
theorem dX12_mustBe_5 : decode cX12_mustBe 5 = .ok (.aload_n 0, 1) := by decide +kernel
theorem dX12_mustBe_6 : decode cX12_mustBe 6 = .ok (.getfield 155, 3) := by decide +kernel
theorem dX12_mustBe_9 : decode cX12_mustBe 9 = .ok (.iaload, 1) := by decide +kernel
theorem dX12_mustBe_10 : decode cX12_mustBe 10 = .ok (.bipush 6, 2) := by decide +kernel
theorem dX12_mustBe_12 : decode cX12_mustBe 12 = .ok (.if_icmp .ne 7, 3) := by decide +kernel
theorem dX12_mustBe_15 : decode cX12_mustBe 15 = .ok (.iconst 1, 1) := by decide +kernel
theorem dX12_mustBe_16 : decode cX12_mustBe 16 = .ok (.goto 4, 3) := by decide +kernel
theorem dX12_mustBe_19 : decode cX12_mustBe 19 = .ok (.iconst 0, 1) := by decide +kernel
theorem dX12_mustBe_20 : decode cX12_mustBe 20 = .ok (.invokevirtual 394, 3) := by decide +kernel
theorem dX12_mustBe_23 : decode cX12_mustBe 23 = .ok (.ifCond .ne 4, 3) := by decide +kernel
theorem dX12_mustBe_26 : decode cX12_mustBe 26 = .ok (.return_, 1) := by decide +kernel
theorem dX12_mustBe_27 : decode cX12_mustBe 27 = .ok (.bipush 6, 2) := by decide +kernel
theorem dX12_mustBe_29 : decode cX12_mustBe 29 = .ok (.aload_n 0, 1) := by decide +kernel
theorem dX12_mustBe_30 : decode cX12_mustBe 30 = .ok (.getfield 155, 3) := by decide +kernel
theorem dX12_mustBe_33 : decode cX12_mustBe 33 = .ok (.imul, 1) := by decide +kernel
theorem dX12_mustBe_34 : decode cX12_mustBe 34 = .ok (.aload_n 0, 1) := by decide +kernel
theorem dX12_mustBe_35 : decode cX12_mustBe 35 = .ok (.getfield 122, 3) := by decide +kernel
theorem dX12_mustBe_38 : decode cX12_mustBe 38 = .ok (.aload_n 0, 1) := by decide +kernel
theorem dX12_mustBe_39 : decode cX12_mustBe 39 = .ok (.getfield 155, 3) := by decide +kernel
theorem dX12_mustBe_42 : decode cX12_mustBe 42 = .ok (.iaload, 1) := by decide +kernel
theorem dX12_mustBe_43 : decode cX12_mustBe 43 = .ok (.iadd, 1) := by decide +kernel
theorem dX12_mustBe_44 : decode cX12_mustBe 44 = .ok (.istore_n 1, 1) := by decide +kernel
theorem dX12_mustBe_45 : decode cX12_mustBe 45 = .ok (.aload_n 0, 1) := by decide +kernel
theorem dX12_mustBe_46 : decode cX12_mustBe 46 = .ok (.getfield 125, 3) := by decide +kernel
theorem dX12_mustBe_49 : decode cX12_mustBe 49 = .ok (.iload_n 1, 1) := by decide +kernel
theorem dX12_mustBe_50 : decode cX12_mustBe 50 = .ok (.aload_n 0, 1) := by decide +kernel
theorem dX12_mustBe_51 : decode cX12_mustBe 51 = .ok (.iconst 1, 1) := by decide +kernel
theorem dX12_mustBe_52 : decode cX12_mustBe 52 = .ok (.invokevirtual 406, 3) := by decide +kernel
theorem dX12_mustBe_55 : decode cX12_mustBe 55 = .ok (.iastore, 1) := by decide +kernel
theorem dX12_mustBe_56 : decode cX12_mustBe 56 = .ok (.aload_n 0, 1) := by decide +kernel
theorem dX12_mustBe_57 : decode cX12_mustBe 57 = .ok (.getfield 128, 3) := by decide +kernel
theorem dX12_mustBe_60 : decode cX12_mustBe 60 = .ok (.iload_n 1, 1) := by decide +kernel
theorem dX12_mustBe_61 : decode cX12_mustBe 61 = .ok (.aload_n 0, 1) := by decide +kernel
theorem dX12_mustBe_62 : decode cX12_mustBe 62 = .ok (.iconst 0, 1) := by decide +kernel
theorem dX12_mustBe_63 : decode cX12_mustBe 63 = .ok (.sipush 1439, 3) := by decide +kernel
theorem dX12_mustBe_66 : decode cX12_mustBe 66 = .ok (.invokevirtual 411, 3) := by decide +kernel
theorem dX12_mustBe_69 : decode cX12_mustBe 69 = .ok (.iastore, 1) := by decide +kernel
theorem dX12_mustBe_70 : decode cX12_mustBe 70 = .ok (.aload_n 0, 1) := by decide +kernel
theorem dX12_mustBe_71 : decode cX12_mustBe 71 = .ok (.getfield 131, 3) := by decide +kernel
theorem dX12_mustBe_74 : decode cX12_mustBe 74 = .ok (.iload_n 1, 1) := by decide +kernel
theorem dX12_mustBe_75 : decode cX12_mustBe 75 = .ok (.aload_n 0, 1) := by decide +kernel
theorem dX12_mustBe_76 : decode cX12_mustBe 76 = .ok (.aload_n 0, 1) := by decide +kernel
theorem dX12_mustBe_77 : decode cX12_mustBe 77 = .ok (.getfield 128, 3) := by decide +kernel
theorem dX12_mustBe_80 : decode cX12_mustBe 80 = .ok (.iload_n 1, 1) := by decide +kernel
theorem dX12_mustBe_81 : decode cX12_mustBe 81 = .ok (.iaload, 1) := by decide +kernel
theorem dX12_mustBe_82 : decode cX12_mustBe 82 = .ok (.sipush 1439, 3) := by decide +kernel
theorem dX12_mustBe_85 : decode cX12_mustBe 85 = .ok (.invokevirtual 411, 3) := by decide +kernel
theorem dX12_mustBe_88 : decode cX12_mustBe 88 = .ok (.iastore, 1) := by decide +kernel
theorem dX12_mustBe_89 : decode cX12_mustBe 89 = .ok (.aload_n 0, 1) := by decide +kernel
theorem dX12_mustBe_90 : decode cX12_mustBe 90 = .ok (.getfield 36, 3) := by decide +kernel
theorem dX12_mustBe_93 : decode cX12_mustBe 93 = .ok (.ifCond .ne 16, 3) := by decide +kernel
theorem dX12_mustBe_96 : decode cX12_mustBe 96 = .ok (.aload_n 0, 1) := by decide +kernel
theorem dX12_mustBe_97 : decode cX12_mustBe 97 = .ok (.getfield 122, 3) := by decide +kernel
theorem dX12_mustBe_100 : decode cX12_mustBe 100 = .ok (.aload_n 0, 1) := by decide +kernel
theorem dX12_mustBe_101 : decode cX12_mustBe 101 = .ok (.getfield 155, 3) := by decide +kernel
theorem dX12_mustBe_104 : decode cX12_mustBe 104 = .ok (.dup2, 1) := by decide +kernel
theorem dX12_mustBe_105 : decode cX12_mustBe 105 = .ok (.iaload, 1) := by decide +kernel
theorem dX12_mustBe_106 : decode cX12_mustBe 106 = .ok (.iconst 1, 1) := by decide +kernel
theorem dX12_mustBe_107 : decode cX12_mustBe 107 = .ok (.iadd, 1) := by decide +kernel
theorem dX12_mustBe_108 : decode cX12_mustBe 108 = .ok (.iastore, 1) := by decide +kernel
theorem dX12_mustBe_109 : decode cX12_mustBe 109 = .ok (.return_, 1) := by decide +kernel
