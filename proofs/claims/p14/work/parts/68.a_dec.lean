theorem dX12_shutting_0 : decode cX12_shutting 0 = .ok (.aload_n 0, 1) := by decide +kernel
theorem dX12_shutting_1 : decode cX12_shutting 1 = .ok (.iconst 0, 1) := by decide +kernel
theorem dX12_shutting_2 : decode cX12_shutting 2 = .ok (.invokevirtual 394, 3) := by decide +kernel
theorem dX12_shutting_5 : decode cX12_shutting 5 = .ok (.ifCond .ne 4, 3) := by decide +kernel
theorem dX12_shutting_8 : decode cX12_shutting 8 = .ok (.return_, 1) := by decide +kernel
theorem dX12_shutting_9 : decode cX12_shutting 9 = .ok (.aload_n 0, 1) := by decide +kernel
theorem dX12_shutting_10 : decode cX12_shutting 10 = .ok (.iconst 1, 1) := by decide +kernel
theorem dX12_shutting_11 : decode cX12_shutting 11 = .ok (.invokevirtual 406, 3) := by decide +kernel
theorem dX12_shutting_14 : decode cX12_shutting 14 = .ok (.istore_n 1, 1) := by decide +kernel
theorem dX12_shutting_15 : decode cX12_shutting 15 = .ok (.aload_n 0, 1) := by decide +kernel
theorem dX12_shutting_16 : decode cX12_shutting 16 = .ok (.ldc2_w 314, 3) := by decide +kernel
theorem dX12_shutting_19 : decode cX12_shutting 19 = .ok (.invokevirtual 402, 3) := by decide +kernel
theorem dX12_shutting_22 : decode cX12_shutting 22 = .ok (.aload_n 0, 1) := by decide +kernel
theorem dX12_shutting_23 : decode cX12_shutting 23 = .ok (.getfield 36, 3) := by decide +kernel
theorem dX12_shutting_26 : decode cX12_shutting 26 = .ok (.ifCond .ne 34, 3) := by decide +kernel
theorem dX12_shutting_29 : decode cX12_shutting 29 = .ok (.aload_n 0, 1) := by decide +kernel
theorem dX12_shutting_30 : decode cX12_shutting 30 = .ok (.getfield 20, 3) := by decide +kernel
theorem dX12_shutting_33 : decode cX12_shutting 33 = .ok (.iconst 1, 1) := by decide +kernel
theorem dX12_shutting_34 : decode cX12_shutting 34 = .ok (.if_icmp .ne 26, 3) := by decide +kernel
theorem dX12_shutting_37 : decode cX12_shutting 37 = .ok (.aload_n 0, 1) := by decide +kernel
theorem dX12_shutting_38 : decode cX12_shutting 38 = .ok (.aload_n 0, 1) := by decide +kernel
theorem dX12_shutting_39 : decode cX12_shutting 39 = .ok (.getfield 32, 3) := by decide +kernel
theorem dX12_shutting_42 : decode cX12_shutting 42 = .ok (.invokevirtual 387, 3) := by decide +kernel
theorem dX12_shutting_45 : decode cX12_shutting 45 = .ok (.ifCond .ne 15, 3) := by decide +kernel
theorem dX12_shutting_48 : decode cX12_shutting 48 = .ok (.aload_n 0, 1) := by decide +kernel
theorem dX12_shutting_49 : decode cX12_shutting 49 = .ok (.iconst 2, 1) := by decide +kernel
theorem dX12_shutting_50 : decode cX12_shutting 50 = .ok (.aload_n 0, 1) := by decide +kernel
theorem dX12_shutting_51 : decode cX12_shutting 51 = .ok (.getfield 32, 3) := by decide +kernel
theorem dX12_shutting_54 : decode cX12_shutting 54 = .ok (.invokevirtual 390, 3) := by decide +kernel
theorem dX12_shutting_57 : decode cX12_shutting 57 = .ok (.goto 4, 3) := by decide +kernel
theorem dX12_shutting_60 : decode cX12_shutting 60 = .ok (.iconst (-1), 1) := by decide +kernel
theorem dX12_shutting_61 : decode cX12_shutting 61 = .ok (.istore_n 2, 1) := by decide +kernel
theorem dX12_shutting_62 : decode cX12_shutting 62 = .ok (.iload_n 2, 1) := by decide +kernel
theorem dX12_shutting_63 : decode cX12_shutting 63 = .ok (.iconst (-1), 1) := by decide +kernel
theorem dX12_shutting_64 : decode cX12_shutting 64 = .ok (.if_icmp .eq 46, 3) := by decide +kernel
theorem dX12_shutting_67 : decode cX12_shutting 67 = .ok (.aload_n 0, 1) := by decide +kernel
theorem dX12_shutting_68 : decode cX12_shutting 68 = .ok (.iconst 4, 1) := by decide +kernel
theorem dX12_shutting_69 : decode cX12_shutting 69 = .ok (.aload_n 0, 1) := by decide +kernel
theorem dX12_shutting_70 : decode cX12_shutting 70 = .ok (.getfield 155, 3) := by decide +kernel
theorem dX12_shutting_73 : decode cX12_shutting 73 = .ok (.imul, 1) := by decide +kernel
theorem dX12_shutting_74 : decode cX12_shutting 74 = .ok (.iload_n 2, 1) := by decide +kernel
theorem dX12_shutting_75 : decode cX12_shutting 75 = .ok (.iadd, 1) := by decide +kernel
theorem dX12_shutting_76 : decode cX12_shutting 76 = .ok (.iload_n 1, 1) := by decide +kernel
theorem dX12_shutting_77 : decode cX12_shutting 77 = .ok (.invokevirtual 419, 3) := by decide +kernel
theorem dX12_shutting_80 : decode cX12_shutting 80 = .ok (.ifCond .ne 21, 3) := by decide +kernel
theorem dX12_shutting_83 : decode cX12_shutting 83 = .ok (.aload_n 0, 1) := by decide +kernel
theorem dX12_shutting_84 : decode cX12_shutting 84 = .ok (.getfield 89, 3) := by decide +kernel
theorem dX12_shutting_87 : decode cX12_shutting 87 = .ok (.iconst 4, 1) := by decide +kernel
theorem dX12_shutting_88 : decode cX12_shutting 88 = .ok (.aload_n 0, 1) := by decide +kernel
theorem dX12_shutting_89 : decode cX12_shutting 89 = .ok (.getfield 155, 3) := by decide +kernel
theorem dX12_shutting_92 : decode cX12_shutting 92 = .ok (.imul, 1) := by decide +kernel
theorem dX12_shutting_93 : decode cX12_shutting 93 = .ok (.iload_n 2, 1) := by decide +kernel
theorem dX12_shutting_94 : decode cX12_shutting 94 = .ok (.iadd, 1) := by decide +kernel
theorem dX12_shutting_95 : decode cX12_shutting 95 = .ok (.iaload, 1) := by decide +kernel
theorem dX12_shutting_96 : decode cX12_shutting 96 = .ok (.bipush 6, 2) := by decide +kernel
theorem dX12_shutting_98 : decode cX12_shutting 98 = .ok (.if_icmp .ne 12, 3) := by decide +kernel
theorem dX12_shutting_101 : decode cX12_shutting 101 = .ok (.aload_n 0, 1) := by decide +kernel
theorem dX12_shutting_102 : decode cX12_shutting 102 = .ok (.iconst 3, 1) := by decide +kernel
theorem dX12_shutting_103 : decode cX12_shutting 103 = .ok (.aload_n 0, 1) := by decide +kernel
theorem dX12_shutting_104 : decode cX12_shutting 104 = .ok (.getfield 23, 3) := by decide +kernel
theorem dX12_shutting_107 : decode cX12_shutting 107 = .ok (.invokevirtual 286, 3) := by decide +kernel
theorem dX12_shutting_110 : decode cX12_shutting 110 = .ok (.iconst 4, 1) := by decide +kernel
theorem dX12_shutting_111 : decode cX12_shutting 111 = .ok (.aload_n 0, 1) := by decide +kernel
theorem dX12_shutting_112 : decode cX12_shutting 112 = .ok (.getfield 155, 3) := by decide +kernel
theorem dX12_shutting_115 : decode cX12_shutting 115 = .ok (.imul, 1) := by decide +kernel
theorem dX12_shutting_116 : decode cX12_shutting 116 = .ok (.aload_n 0, 1) := by decide +kernel
theorem dX12_shutting_117 : decode cX12_shutting 117 = .ok (.iconst 2, 1) := by decide +kernel
theorem dX12_shutting_118 : decode cX12_shutting 118 = .ok (.invokevirtual 406, 3) := by decide +kernel
theorem dX12_shutting_121 : decode cX12_shutting 121 = .ok (.iadd, 1) := by decide +kernel
theorem dX12_shutting_122 : decode cX12_shutting 122 = .ok (.istore_n 2, 1) := by decide +kernel
theorem dX12_shutting_123 : decode cX12_shutting 123 = .ok (.aload_n 0, 1) := by decide +kernel
theorem dX12_shutting_124 : decode cX12_shutting 124 = .ok (.getfield 36, 3) := by decide +kernel
theorem dX12_shutting_127 : decode cX12_shutting 127 = .ok (.ifCond .le 4, 3) := by decide +kernel
theorem dX12_shutting_130 : decode cX12_shutting 130 = .ok (.return_, 1) := by decide +kernel
theorem dX12_shutting_131 : decode cX12_shutting 131 = .ok (.aload_n 0, 1) := by decide +kernel
theorem dX12_shutting_132 : decode cX12_shutting 132 = .ok (.getfield 92, 3) := by decide +kernel
theorem dX12_shutting_135 : decode cX12_shutting 135 = .ok (.bipush 10, 2) := by decide +kernel
theorem dX12_shutting_137 : decode cX12_shutting 137 = .ok (.iload_n 2, 1) := by decide +kernel
theorem dX12_shutting_138 : decode cX12_shutting 138 = .ok (.imul, 1) := by decide +kernel
theorem dX12_shutting_139 : decode cX12_shutting 139 = .ok (.aload_n 0, 1) := by decide +kernel
theorem dX12_shutting_140 : decode cX12_shutting 140 = .ok (.getfield 89, 3) := by decide +kernel
theorem dX12_shutting_143 : decode cX12_shutting 143 = .ok (.iload_n 2, 1) := by decide +kernel
theorem dX12_shutting_144 : decode cX12_shutting 144 = .ok (.iaload, 1) := by decide +kernel
theorem dX12_shutting_145 : decode cX12_shutting 145 = .ok (.iadd, 1) := by decide +kernel
theorem dX12_shutting_146 : decode cX12_shutting 146 = .ok (.iload_n 1, 1) := by decide +kernel
theorem dX12_shutting_147 : decode cX12_shutting 147 = .ok (.iastore, 1) := by decide +kernel
theorem dX12_shutting_148 : decode cX12_shutting 148 = .ok (.aload_n 0, 1) := by decide +kernel
theorem dX12_shutting_149 : decode cX12_shutting 149 = .ok (.getfield 89, 3) := by decide +kernel
theorem dX12_shutting_152 : decode cX12_shutting 152 = .ok (.iload_n 2, 1) := by decide +kernel
theorem dX12_shutting_153 : decode cX12_shutting 153 = .ok (.dup2, 1) := by decide +kernel
theorem dX12_shutting_154 : decode cX12_shutting 154 = .ok (.iaload, 1) := by decide +kernel
theorem dX12_shutting_155 : decode cX12_shutting 155 = .ok (.iconst 1, 1) := by decide +kernel
theorem dX12_shutting_156 : decode cX12_shutting 156 = .ok (.iadd, 1) := by decide +kernel
theorem dX12_shutting_157 : decode cX12_shutting 157 = .ok (.iastore, 1) := by decide +kernel
theorem dX12_shutting_158 : decode cX12_shutting 158 = .ok (.return_, 1) := by decide +kernel
