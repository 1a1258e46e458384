theorem dX12_barring_0 : decode cX12_barring 0 = .ok (.aload_n 0, 1) := by decide +kernel
theorem dX12_barring_1 : decode cX12_barring 1 = .ok (.aload_n 0, 1) := by decide +kernel
theorem dX12_barring_2 : decode cX12_barring 2 = .ok (.getfield 134, 3) := by decide +kernel
theorem dX12_barring_5 : decode cX12_barring 5 = .ok (.aload_n 0, 1) := by decide +kernel
theorem dX12_barring_6 : decode cX12_barring 6 = .ok (.getfield 155, 3) := by decide +kernel
theorem dX12_barring_9 : decode cX12_barring 9 = .ok (.iaload, 1) := by decide +kernel
theorem dX12_barring_10 : decode cX12_barring 10 = .ok (.bipush 6, 2) := by decide +kernel
theorem dX12_barring_12 : decode cX12_barring 12 = .ok (.if_icmp .ne 7, 3) := by decide +kernel
theorem dX12_barring_15 : decode cX12_barring 15 = .ok (.iconst 1, 1) := by decide +kernel
theorem dX12_barring_16 : decode cX12_barring 16 = .ok (.goto 4, 3) := by decide +kernel
theorem dX12_barring_19 : decode cX12_barring 19 = .ok (.iconst 0, 1) := by decide +kernel
theorem dX12_barring_20 : decode cX12_barring 20 = .ok (.invokevirtual 394, 3) := by decide +kernel
theorem dX12_barring_23 : decode cX12_barring 23 = .ok (.ifCond .ne 4, 3) := by decide +kernel
theorem dX12_barring_26 : decode cX12_barring 26 = .ok (.return_, 1) := by decide +kernel
theorem dX12_barring_27 : decode cX12_barring 27 = .ok (.bipush 6, 2) := by decide +kernel
theorem dX12_barring_29 : decode cX12_barring 29 = .ok (.aload_n 0, 1) := by decide +kernel
theorem dX12_barring_30 : decode cX12_barring 30 = .ok (.getfield 155, 3) := by decide +kernel
theorem dX12_barring_33 : decode cX12_barring 33 = .ok (.imul, 1) := by decide +kernel
theorem dX12_barring_34 : decode cX12_barring 34 = .ok (.aload_n 0, 1) := by decide +kernel
theorem dX12_barring_35 : decode cX12_barring 35 = .ok (.getfield 134, 3) := by decide +kernel
theorem dX12_barring_38 : decode cX12_barring 38 = .ok (.aload_n 0, 1) := by decide +kernel
theorem dX12_barring_39 : decode cX12_barring 39 = .ok (.getfield 155, 3) := by decide +kernel
theorem dX12_barring_42 : decode cX12_barring 42 = .ok (.iaload, 1) := by decide +kernel
theorem dX12_barring_43 : decode cX12_barring 43 = .ok (.iadd, 1) := by decide +kernel
theorem dX12_barring_44 : decode cX12_barring 44 = .ok (.istore_n 1, 1) := by decide +kernel
theorem dX12_barring_45 : decode cX12_barring 45 = .ok (.aload_n 0, 1) := by decide +kernel
theorem dX12_barring_46 : decode cX12_barring 46 = .ok (.getfield 36, 3) := by decide +kernel
theorem dX12_barring_49 : decode cX12_barring 49 = .ok (.ifCond .ne 34, 3) := by decide +kernel
theorem dX12_barring_52 : decode cX12_barring 52 = .ok (.aload_n 0, 1) := by decide +kernel
theorem dX12_barring_53 : decode cX12_barring 53 = .ok (.getfield 20, 3) := by decide +kernel
theorem dX12_barring_56 : decode cX12_barring 56 = .ok (.iconst 1, 1) := by decide +kernel
theorem dX12_barring_57 : decode cX12_barring 57 = .ok (.if_icmp .ne 26, 3) := by decide +kernel
theorem dX12_barring_60 : decode cX12_barring 60 = .ok (.aload_n 0, 1) := by decide +kernel
theorem dX12_barring_61 : decode cX12_barring 61 = .ok (.aload_n 0, 1) := by decide +kernel
theorem dX12_barring_62 : decode cX12_barring 62 = .ok (.getfield 32, 3) := by decide +kernel
theorem dX12_barring_65 : decode cX12_barring 65 = .ok (.invokevirtual 387, 3) := by decide +kernel
theorem dX12_barring_68 : decode cX12_barring 68 = .ok (.ifCond .ne 15, 3) := by decide +kernel
theorem dX12_barring_71 : decode cX12_barring 71 = .ok (.aload_n 0, 1) := by decide +kernel
theorem dX12_barring_72 : decode cX12_barring 72 = .ok (.iconst 1, 1) := by decide +kernel
theorem dX12_barring_73 : decode cX12_barring 73 = .ok (.aload_n 0, 1) := by decide +kernel
theorem dX12_barring_74 : decode cX12_barring 74 = .ok (.getfield 32, 3) := by decide +kernel
theorem dX12_barring_77 : decode cX12_barring 77 = .ok (.invokevirtual 390, 3) := by decide +kernel
theorem dX12_barring_80 : decode cX12_barring 80 = .ok (.goto 4, 3) := by decide +kernel
theorem dX12_barring_83 : decode cX12_barring 83 = .ok (.iconst (-1), 1) := by decide +kernel
theorem dX12_barring_84 : decode cX12_barring 84 = .ok (.istore_n 2, 1) := by decide +kernel
theorem dX12_barring_85 : decode cX12_barring 85 = .ok (.iload_n 2, 1) := by decide +kernel
theorem dX12_barring_86 : decode cX12_barring 86 = .ok (.iconst (-1), 1) := by decide +kernel
theorem dX12_barring_87 : decode cX12_barring 87 = .ok (.if_icmp .eq 29, 3) := by decide +kernel
theorem dX12_barring_90 : decode cX12_barring 90 = .ok (.aload_n 0, 1) := by decide +kernel
theorem dX12_barring_91 : decode cX12_barring 91 = .ok (.getfield 70, 3) := by decide +kernel
theorem dX12_barring_94 : decode cX12_barring 94 = .ok (.bipush 10, 2) := by decide +kernel
theorem dX12_barring_96 : decode cX12_barring 96 = .ok (.aload_n 0, 1) := by decide +kernel
theorem dX12_barring_97 : decode cX12_barring 97 = .ok (.getfield 155, 3) := by decide +kernel
theorem dX12_barring_100 : decode cX12_barring 100 = .ok (.imul, 1) := by decide +kernel
theorem dX12_barring_101 : decode cX12_barring 101 = .ok (.iload_n 2, 1) := by decide +kernel
theorem dX12_barring_102 : decode cX12_barring 102 = .ok (.iadd, 1) := by decide +kernel
theorem dX12_barring_103 : decode cX12_barring 103 = .ok (.baload, 1) := by decide +kernel
theorem dX12_barring_104 : decode cX12_barring 104 = .ok (.ifCond .eq 12, 3) := by decide +kernel
theorem dX12_barring_107 : decode cX12_barring 107 = .ok (.aload_n 0, 1) := by decide +kernel
theorem dX12_barring_108 : decode cX12_barring 108 = .ok (.iconst 3, 1) := by decide +kernel
theorem dX12_barring_109 : decode cX12_barring 109 = .ok (.aload_n 0, 1) := by decide +kernel
theorem dX12_barring_110 : decode cX12_barring 110 = .ok (.getfield 23, 3) := by decide +kernel
theorem dX12_barring_113 : decode cX12_barring 113 = .ok (.invokevirtual 286, 3) := by decide +kernel
theorem dX12_barring_116 : decode cX12_barring 116 = .ok (.aload_n 0, 1) := by decide +kernel
theorem dX12_barring_117 : decode cX12_barring 117 = .ok (.getfield 137, 3) := by decide +kernel
theorem dX12_barring_120 : decode cX12_barring 120 = .ok (.iload_n 1, 1) := by decide +kernel
theorem dX12_barring_121 : decode cX12_barring 121 = .ok (.aload_n 0, 1) := by decide +kernel
theorem dX12_barring_122 : decode cX12_barring 122 = .ok (.iconst 1, 1) := by decide +kernel
theorem dX12_barring_123 : decode cX12_barring 123 = .ok (.invokevirtual 406, 3) := by decide +kernel
theorem dX12_barring_126 : decode cX12_barring 126 = .ok (.iastore, 1) := by decide +kernel
theorem dX12_barring_127 : decode cX12_barring 127 = .ok (.aload_n 0, 1) := by decide +kernel
theorem dX12_barring_128 : decode cX12_barring 128 = .ok (.ldc2_w 326, 3) := by decide +kernel
theorem dX12_barring_131 : decode cX12_barring 131 = .ok (.invokevirtual 402, 3) := by decide +kernel
theorem dX12_barring_134 : decode cX12_barring 134 = .ok (.aload_n 0, 1) := by decide +kernel
theorem dX12_barring_135 : decode cX12_barring 135 = .ok (.getfield 140, 3) := by decide +kernel
theorem dX12_barring_138 : decode cX12_barring 138 = .ok (.iload_n 1, 1) := by decide +kernel
theorem dX12_barring_139 : decode cX12_barring 139 = .ok (.aload_n 0, 1) := by decide +kernel
theorem dX12_barring_140 : decode cX12_barring 140 = .ok (.getfield 152, 3) := by decide +kernel
theorem dX12_barring_143 : decode cX12_barring 143 = .ok (.iastore, 1) := by decide +kernel
theorem dX12_barring_144 : decode cX12_barring 144 = .ok (.aload_n 0, 1) := by decide +kernel
theorem dX12_barring_145 : decode cX12_barring 145 = .ok (.getfield 36, 3) := by decide +kernel
theorem dX12_barring_148 : decode cX12_barring 148 = .ok (.ifCond .ne 8, 3) := by decide +kernel
theorem dX12_barring_151 : decode cX12_barring 151 = .ok (.aload_n 0, 1) := by decide +kernel
theorem dX12_barring_152 : decode cX12_barring 152 = .ok (.iconst 1, 1) := by decide +kernel
theorem dX12_barring_153 : decode cX12_barring 153 = .ok (.invokevirtual 423, 3) := by decide +kernel
theorem dX12_barring_156 : decode cX12_barring 156 = .ok (.aload_n 0, 1) := by decide +kernel
theorem dX12_barring_157 : decode cX12_barring 157 = .ok (.getfield 143, 3) := by decide +kernel
theorem dX12_barring_160 : decode cX12_barring 160 = .ok (.iload_n 1, 1) := by decide +kernel
theorem dX12_barring_161 : decode cX12_barring 161 = .ok (.aload_n 0, 1) := by decide +kernel
theorem dX12_barring_162 : decode cX12_barring 162 = .ok (.getfield 152, 3) := by decide +kernel
theorem dX12_barring_165 : decode cX12_barring 165 = .ok (.iastore, 1) := by decide +kernel
theorem dX12_barring_166 : decode cX12_barring 166 = .ok (.aload_n 0, 1) := by decide +kernel
theorem dX12_barring_167 : decode cX12_barring 167 = .ok (.getfield 36, 3) := by decide +kernel
theorem dX12_barring_170 : decode cX12_barring 170 = .ok (.ifCond .ne 16, 3) := by decide +kernel
theorem dX12_barring_173 : decode cX12_barring 173 = .ok (.aload_n 0, 1) := by decide +kernel
theorem dX12_barring_174 : decode cX12_barring 174 = .ok (.getfield 134, 3) := by decide +kernel
theorem dX12_barring_177 : decode cX12_barring 177 = .ok (.aload_n 0, 1) := by decide +kernel
theorem dX12_barring_178 : decode cX12_barring 178 = .ok (.getfield 155, 3) := by decide +kernel
theorem dX12_barring_181 : decode cX12_barring 181 = .ok (.dup2, 1) := by decide +kernel
theorem dX12_barring_182 : decode cX12_barring 182 = .ok (.iaload, 1) := by decide +kernel
theorem dX12_barring_183 : decode cX12_barring 183 = .ok (.iconst 1, 1) := by decide +kernel
theorem dX12_barring_184 : decode cX12_barring 184 = .ok (.iadd, 1) := by decide +kernel
theorem dX12_barring_185 : decode cX12_barring 185 = .ok (.iastore, 1) := by decide +kernel
theorem dX12_barring_186 : decode cX12_barring 186 = .ok (.return_, 1) := by decide +kernel
