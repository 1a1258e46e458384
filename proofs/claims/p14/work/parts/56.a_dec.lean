theorem dX12_door_0 : decode cX12_door 0 = .ok (.aload_n 0, 1) := by decide +kernel
theorem dX12_door_1 : decode cX12_door 1 = .ok (.aload_n 0, 1) := by decide +kernel
theorem dX12_door_2 : decode cX12_door 2 = .ok (.getfield 58, 3) := by decide +kernel
theorem dX12_door_5 : decode cX12_door 5 = .ok (.aload_n 0, 1) := by decide +kernel
theorem dX12_door_6 : decode cX12_door 6 = .ok (.getfield 155, 3) := by decide +kernel
theorem dX12_door_9 : decode cX12_door 9 = .ok (.iaload, 1) := by decide +kernel
theorem dX12_door_10 : decode cX12_door 10 = .ok (.bipush 10, 2) := by decide +kernel
theorem dX12_door_12 : decode cX12_door 12 = .ok (.if_icmp .ne 7, 3) := by decide +kernel
theorem dX12_door_15 : decode cX12_door 15 = .ok (.iconst 1, 1) := by decide +kernel
theorem dX12_door_16 : decode cX12_door 16 = .ok (.goto 4, 3) := by decide +kernel
theorem dX12_door_19 : decode cX12_door 19 = .ok (.iconst 0, 1) := by decide +kernel
theorem dX12_door_20 : decode cX12_door 20 = .ok (.invokevirtual 394, 3) := by decide +kernel
theorem dX12_door_23 : decode cX12_door 23 = .ok (.ifCond .ne 4, 3) := by decide +kernel
theorem dX12_door_26 : decode cX12_door 26 = .ok (.return_, 1) := by decide +kernel
theorem dX12_door_27 : decode cX12_door 27 = .ok (.bipush 10, 2) := by decide +kernel
theorem dX12_door_29 : decode cX12_door 29 = .ok (.aload_n 0, 1) := by decide +kernel
theorem dX12_door_30 : decode cX12_door 30 = .ok (.getfield 155, 3) := by decide +kernel
theorem dX12_door_33 : decode cX12_door 33 = .ok (.imul, 1) := by decide +kernel
theorem dX12_door_34 : decode cX12_door 34 = .ok (.aload_n 0, 1) := by decide +kernel
theorem dX12_door_35 : decode cX12_door 35 = .ok (.getfield 58, 3) := by decide +kernel
theorem dX12_door_38 : decode cX12_door 38 = .ok (.aload_n 0, 1) := by decide +kernel
theorem dX12_door_39 : decode cX12_door 39 = .ok (.getfield 155, 3) := by decide +kernel
theorem dX12_door_42 : decode cX12_door 42 = .ok (.iaload, 1) := by decide +kernel
theorem dX12_door_43 : decode cX12_door 43 = .ok (.iadd, 1) := by decide +kernel
theorem dX12_door_44 : decode cX12_door 44 = .ok (.istore_n 2, 1) := by decide +kernel
theorem dX12_door_45 : decode cX12_door 45 = .ok (.aload_n 0, 1) := by decide +kernel
theorem dX12_door_46 : decode cX12_door 46 = .ok (.getfield 61, 3) := by decide +kernel
theorem dX12_door_49 : decode cX12_door 49 = .ok (.iload_n 2, 1) := by decide +kernel
theorem dX12_door_50 : decode cX12_door 50 = .ok (.aload_n 0, 1) := by decide +kernel
theorem dX12_door_51 : decode cX12_door 51 = .ok (.invokevirtual 398, 3) := by decide +kernel
theorem dX12_door_54 : decode cX12_door 54 = .ok (.lastore, 1) := by decide +kernel
theorem dX12_door_55 : decode cX12_door 55 = .ok (.iload_n 1, 1) := by decide +kernel
theorem dX12_door_56 : decode cX12_door 56 = .ok (.ifCond .eq 10, 3) := by decide +kernel
theorem dX12_door_59 : decode cX12_door 59 = .ok (.aload_n 0, 1) := by decide +kernel
theorem dX12_door_60 : decode cX12_door 60 = .ok (.ldc2_w 302, 3) := by decide +kernel
theorem dX12_door_63 : decode cX12_door 63 = .ok (.invokevirtual 402, 3) := by decide +kernel
theorem dX12_door_66 : decode cX12_door 66 = .ok (.aload_n 0, 1) := by decide +kernel
theorem dX12_door_67 : decode cX12_door 67 = .ok (.getfield 64, 3) := by decide +kernel
theorem dX12_door_70 : decode cX12_door 70 = .ok (.iload_n 2, 1) := by decide +kernel
theorem dX12_door_71 : decode cX12_door 71 = .ok (.aload_n 0, 1) := by decide +kernel
theorem dX12_door_72 : decode cX12_door 72 = .ok (.iconst 0, 1) := by decide +kernel
theorem dX12_door_73 : decode cX12_door 73 = .ok (.invokevirtual 406, 3) := by decide +kernel
theorem dX12_door_76 : decode cX12_door 76 = .ok (.iastore, 1) := by decide +kernel
theorem dX12_door_77 : decode cX12_door 77 = .ok (.iload_n 1, 1) := by decide +kernel
theorem dX12_door_78 : decode cX12_door 78 = .ok (.ifCond .ne 14, 3) := by decide +kernel
theorem dX12_door_81 : decode cX12_door 81 = .ok (.aload_n 0, 1) := by decide +kernel
theorem dX12_door_82 : decode cX12_door 82 = .ok (.iconst 0, 1) := by decide +kernel
theorem dX12_door_83 : decode cX12_door 83 = .ok (.aload_n 0, 1) := by decide +kernel
theorem dX12_door_84 : decode cX12_door 84 = .ok (.getfield 64, 3) := by decide +kernel
theorem dX12_door_87 : decode cX12_door 87 = .ok (.iload_n 2, 1) := by decide +kernel
theorem dX12_door_88 : decode cX12_door 88 = .ok (.iaload, 1) := by decide +kernel
theorem dX12_door_89 : decode cX12_door 89 = .ok (.invokevirtual 409, 3) := by decide +kernel
theorem dX12_door_92 : decode cX12_door 92 = .ok (.aload_n 0, 1) := by decide +kernel
theorem dX12_door_93 : decode cX12_door 93 = .ok (.getfield 67, 3) := by decide +kernel
theorem dX12_door_96 : decode cX12_door 96 = .ok (.iload_n 2, 1) := by decide +kernel
theorem dX12_door_97 : decode cX12_door 97 = .ok (.iload_n 1, 1) := by decide +kernel
theorem dX12_door_98 : decode cX12_door 98 = .ok (.ifCond .eq 12, 3) := by decide +kernel
theorem dX12_door_101 : decode cX12_door 101 = .ok (.aload_n 0, 1) := by decide +kernel
theorem dX12_door_102 : decode cX12_door 102 = .ok (.getfield 64, 3) := by decide +kernel
theorem dX12_door_105 : decode cX12_door 105 = .ok (.iload_n 2, 1) := by decide +kernel
theorem dX12_door_106 : decode cX12_door 106 = .ok (.iaload, 1) := by decide +kernel
theorem dX12_door_107 : decode cX12_door 107 = .ok (.goto 8, 3) := by decide +kernel
theorem dX12_door_110 : decode cX12_door 110 = .ok (.aload_n 0, 1) := by decide +kernel
theorem dX12_door_111 : decode cX12_door 111 = .ok (.iconst 0, 1) := by decide +kernel
theorem dX12_door_112 : decode cX12_door 112 = .ok (.invokevirtual 406, 3) := by decide +kernel
theorem dX12_door_115 : decode cX12_door 115 = .ok (.iastore, 1) := by decide +kernel
theorem dX12_door_116 : decode cX12_door 116 = .ok (.aload_n 0, 1) := by decide +kernel
theorem dX12_door_117 : decode cX12_door 117 = .ok (.getfield 70, 3) := by decide +kernel
theorem dX12_door_120 : decode cX12_door 120 = .ok (.iload_n 2, 1) := by decide +kernel
theorem dX12_door_121 : decode cX12_door 121 = .ok (.iload_n 1, 1) := by decide +kernel
theorem dX12_door_122 : decode cX12_door 122 = .ok (.bastore, 1) := by decide +kernel
theorem dX12_door_123 : decode cX12_door 123 = .ok (.aload_n 0, 1) := by decide +kernel
theorem dX12_door_124 : decode cX12_door 124 = .ok (.getfield 74, 3) := by decide +kernel
theorem dX12_door_127 : decode cX12_door 127 = .ok (.iload_n 2, 1) := by decide +kernel
theorem dX12_door_128 : decode cX12_door 128 = .ok (.iload_n 1, 1) := by decide +kernel
theorem dX12_door_129 : decode cX12_door 129 = .ok (.ifCond .eq 7, 3) := by decide +kernel
theorem dX12_door_132 : decode cX12_door 132 = .ok (.iconst 0, 1) := by decide +kernel
theorem dX12_door_133 : decode cX12_door 133 = .ok (.goto 10, 3) := by decide +kernel
theorem dX12_door_136 : decode cX12_door 136 = .ok (.aload_n 0, 1) := by decide +kernel
theorem dX12_door_137 : decode cX12_door 137 = .ok (.iconst 1, 1) := by decide +kernel
theorem dX12_door_138 : decode cX12_door 138 = .ok (.bipush 99, 2) := by decide +kernel
theorem dX12_door_140 : decode cX12_door 140 = .ok (.invokevirtual 411, 3) := by decide +kernel
theorem dX12_door_143 : decode cX12_door 143 = .ok (.iastore, 1) := by decide +kernel
theorem dX12_door_144 : decode cX12_door 144 = .ok (.aload_n 0, 1) := by decide +kernel
theorem dX12_door_145 : decode cX12_door 145 = .ok (.getfield 77, 3) := by decide +kernel
theorem dX12_door_148 : decode cX12_door 148 = .ok (.iload_n 2, 1) := by decide +kernel
theorem dX12_door_149 : decode cX12_door 149 = .ok (.iconst 0, 1) := by decide +kernel
theorem dX12_door_150 : decode cX12_door 150 = .ok (.bastore, 1) := by decide +kernel
theorem dX12_door_151 : decode cX12_door 151 = .ok (.aload_n 0, 1) := by decide +kernel
theorem dX12_door_152 : decode cX12_door 152 = .ok (.getfield 36, 3) := by decide +kernel
theorem dX12_door_155 : decode cX12_door 155 = .ok (.ifCond .ne 16, 3) := by decide +kernel
theorem dX12_door_158 : decode cX12_door 158 = .ok (.aload_n 0, 1) := by decide +kernel
theorem dX12_door_159 : decode cX12_door 159 = .ok (.getfield 58, 3) := by decide +kernel
theorem dX12_door_162 : decode cX12_door 162 = .ok (.aload_n 0, 1) := by decide +kernel
theorem dX12_door_163 : decode cX12_door 163 = .ok (.getfield 155, 3) := by decide +kernel
theorem dX12_door_166 : decode cX12_door 166 = .ok (.dup2, 1) := by decide +kernel
theorem dX12_door_167 : decode cX12_door 167 = .ok (.iaload, 1) := by decide +kernel
theorem dX12_door_168 : decode cX12_door 168 = .ok (.iconst 1, 1) := by decide +kernel
theorem dX12_door_169 : decode cX12_door 169 = .ok (.iadd, 1) := by decide +kernel
theorem dX12_door_170 : decode cX12_door 170 = .ok (.iastore, 1) := by decide +kernel
theorem dX12_door_171 : decode cX12_door 171 = .ok (.return_, 1) := by decide +kernel
