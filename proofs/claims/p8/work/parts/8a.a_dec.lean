theorem dX12_on_0 : decode cX12_on 0 = .ok (.aload_n 0, 1) := by decide +kernel
theorem dX12_on_1 : decode cX12_on 1 = .ok (.getfield 13, 3) := by decide +kernel
theorem dX12_on_4 : decode cX12_on 4 = .ok (.istore_n 1, 1) := by decide +kernel
theorem dX12_on_5 : decode cX12_on 5 = .ok (.aload_n 0, 1) := by decide +kernel
theorem dX12_on_6 : decode cX12_on 6 = .ok (.iconst 0, 1) := by decide +kernel
theorem dX12_on_7 : decode cX12_on 7 = .ok (.putfield 13, 3) := by decide +kernel
theorem dX12_on_10 : decode cX12_on 10 = .ok (.aload_n 0, 1) := by decide +kernel
theorem dX12_on_11 : decode cX12_on 11 = .ok (.iload_n 1, 1) := by decide +kernel
theorem dX12_on_12 : decode cX12_on 12 = .ok (.invokevirtual 640, 3) := by decide +kernel
theorem dX12_on_15 : decode cX12_on 15 = .ok (.ifCond .ne 17, 3) := by decide +kernel
theorem dX12_on_18 : decode cX12_on 18 = .ok (.aload_n 0, 1) := by decide +kernel
theorem dX12_on_19 : decode cX12_on 19 = .ok (.iconst 5, 1) := by decide +kernel
theorem dX12_on_20 : decode cX12_on 20 = .ok (.invokevirtual 271, 3) := by decide +kernel
theorem dX12_on_23 : decode cX12_on 23 = .ok (.ifCond .lt 7, 3) := by decide +kernel
theorem dX12_on_30 : decode cX12_on 30 = .ok (.iconst 0, 1) := by decide +kernel
theorem dX12_on_31 : decode cX12_on 31 = .ok (.ireturn, 1) := by decide +kernel
theorem dX12_on_32 : decode cX12_on 32 = .ok (.iconst 0, 1) := by decide +kernel
theorem dX12_on_33 : decode cX12_on 33 = .ok (.istore_n 2, 1) := by decide +kernel
theorem dX12_on_34 : decode cX12_on 34 = .ok (.iload_n 2, 1) := by decide +kernel
theorem dX12_on_35 : decode cX12_on 35 = .ok (.aload_n 0, 1) := by decide +kernel
theorem dX12_on_36 : decode cX12_on 36 = .ok (.getfield 95, 3) := by decide +kernel
theorem dX12_on_39 : decode cX12_on 39 = .ok (.aload_n 0, 1) := by decide +kernel
theorem dX12_on_40 : decode cX12_on 40 = .ok (.getfield 48, 3) := by decide +kernel
theorem dX12_on_43 : decode cX12_on 43 = .ok (.iaload, 1) := by decide +kernel
theorem dX12_on_44 : decode cX12_on 44 = .ok (.if_icmp .ge 28, 3) := by decide +kernel
theorem dX12_on_47 : decode cX12_on 47 = .ok (.aload_n 0, 1) := by decide +kernel
theorem dX12_on_48 : decode cX12_on 48 = .ok (.getfield 101, 3) := by decide +kernel
theorem dX12_on_51 : decode cX12_on 51 = .ok (.iconst 3, 1) := by decide +kernel
theorem dX12_on_52 : decode cX12_on 52 = .ok (.aload_n 0, 1) := by decide +kernel
theorem dX12_on_53 : decode cX12_on 53 = .ok (.getfield 48, 3) := by decide +kernel
theorem dX12_on_56 : decode cX12_on 56 = .ok (.imul, 1) := by decide +kernel
theorem dX12_on_57 : decode cX12_on 57 = .ok (.iload_n 2, 1) := by decide +kernel
theorem dX12_on_58 : decode cX12_on 58 = .ok (.iadd, 1) := by decide +kernel
theorem dX12_on_59 : decode cX12_on 59 = .ok (.aload_n 0, 1) := by decide +kernel
theorem dX12_on_60 : decode cX12_on 60 = .ok (.getfield 7, 3) := by decide +kernel
theorem dX12_on_63 : decode cX12_on 63 = .ok (.iload_n 2, 1) := by decide +kernel
theorem dX12_on_64 : decode cX12_on 64 = .ok (.iaload, 1) := by decide +kernel
theorem dX12_on_65 : decode cX12_on 65 = .ok (.iastore, 1) := by decide +kernel
theorem dX12_on_66 : decode cX12_on 66 = .ok (.iinc 2 1, 3) := by decide +kernel
theorem dX12_on_69 : decode cX12_on 69 = .ok (.goto (-35), 3) := by decide +kernel
theorem dX12_on_72 : decode cX12_on 72 = .ok (.aload_n 0, 1) := by decide +kernel
theorem dX12_on_73 : decode cX12_on 73 = .ok (.getfield 95, 3) := by decide +kernel
theorem dX12_on_76 : decode cX12_on 76 = .ok (.aload_n 0, 1) := by decide +kernel
theorem dX12_on_77 : decode cX12_on 77 = .ok (.getfield 48, 3) := by decide +kernel
theorem dX12_on_80 : decode cX12_on 80 = .ok (.iaload, 1) := by decide +kernel
theorem dX12_on_81 : decode cX12_on 81 = .ok (.istore_n 2, 1) := by decide +kernel
theorem dX12_on_82 : decode cX12_on 82 = .ok (.iconst 0, 1) := by decide +kernel
theorem dX12_on_83 : decode cX12_on 83 = .ok (.istore_n 3, 1) := by decide +kernel
theorem dX12_on_84 : decode cX12_on 84 = .ok (.iload_n 3, 1) := by decide +kernel
theorem dX12_on_85 : decode cX12_on 85 = .ok (.aload_n 0, 1) := by decide +kernel
theorem dX12_on_86 : decode cX12_on 86 = .ok (.getfield 80, 3) := by decide +kernel
theorem dX12_on_89 : decode cX12_on 89 = .ok (.aload_n 0, 1) := by decide +kernel
theorem dX12_on_90 : decode cX12_on 90 = .ok (.getfield 48, 3) := by decide +kernel
theorem dX12_on_93 : decode cX12_on 93 = .ok (.iaload, 1) := by decide +kernel
theorem dX12_on_94 : decode cX12_on 94 = .ok (.if_icmp .ge 105, 3) := by decide +kernel
theorem dX12_on_97 : decode cX12_on 97 = .ok (.aload_n 0, 1) := by decide +kernel
theorem dX12_on_98 : decode cX12_on 98 = .ok (.getfield 86, 3) := by decide +kernel
theorem dX12_on_101 : decode cX12_on 101 = .ok (.aload_n 0, 1) := by decide +kernel
theorem dX12_on_102 : decode cX12_on 102 = .ok (.iload_n 3, 1) := by decide +kernel
theorem dX12_on_103 : decode cX12_on 103 = .ok (.invokevirtual 484, 3) := by decide +kernel
theorem dX12_on_106 : decode cX12_on 106 = .ok (.aload_n 0, 1) := by decide +kernel
theorem dX12_on_107 : decode cX12_on 107 = .ok (.getfield 7, 3) := by decide +kernel
theorem dX12_on_110 : decode cX12_on 110 = .ok (.iload_n 2, 1) := by decide +kernel
theorem dX12_on_111 : decode cX12_on 111 = .ok (.iaload, 1) := by decide +kernel
theorem dX12_on_112 : decode cX12_on 112 = .ok (.iastore, 1) := by decide +kernel
theorem dX12_on_113 : decode cX12_on 113 = .ok (.aload_n 0, 1) := by decide +kernel
theorem dX12_on_114 : decode cX12_on 114 = .ok (.getfield 89, 3) := by decide +kernel
theorem dX12_on_117 : decode cX12_on 117 = .ok (.aload_n 0, 1) := by decide +kernel
theorem dX12_on_118 : decode cX12_on 118 = .ok (.iload_n 3, 1) := by decide +kernel
theorem dX12_on_119 : decode cX12_on 119 = .ok (.invokevirtual 484, 3) := by decide +kernel
theorem dX12_on_122 : decode cX12_on 122 = .ok (.aload_n 0, 1) := by decide +kernel
theorem dX12_on_123 : decode cX12_on 123 = .ok (.getfield 7, 3) := by decide +kernel
theorem dX12_on_126 : decode cX12_on 126 = .ok (.iload_n 2, 1) := by decide +kernel
theorem dX12_on_127 : decode cX12_on 127 = .ok (.iconst 1, 1) := by decide +kernel
theorem dX12_on_128 : decode cX12_on 128 = .ok (.iadd, 1) := by decide +kernel
theorem dX12_on_129 : decode cX12_on 129 = .ok (.iaload, 1) := by decide +kernel
theorem dX12_on_130 : decode cX12_on 130 = .ok (.iastore, 1) := by decide +kernel
theorem dX12_on_131 : decode cX12_on 131 = .ok (.iconst 0, 1) := by decide +kernel
theorem dX12_on_132 : decode cX12_on 132 = .ok (.istore 4, 2) := by decide +kernel
theorem dX12_on_134 : decode cX12_on 134 = .ok (.iload 4, 2) := by decide +kernel
theorem dX12_on_136 : decode cX12_on 136 = .ok (.aload_n 0, 1) := by decide +kernel
theorem dX12_on_137 : decode cX12_on 137 = .ok (.getfield 7, 3) := by decide +kernel
theorem dX12_on_140 : decode cX12_on 140 = .ok (.iload_n 2, 1) := by decide +kernel
theorem dX12_on_141 : decode cX12_on 141 = .ok (.iconst 1, 1) := by decide +kernel
theorem dX12_on_142 : decode cX12_on 142 = .ok (.iadd, 1) := by decide +kernel
theorem dX12_on_143 : decode cX12_on 143 = .ok (.iaload, 1) := by decide +kernel
theorem dX12_on_144 : decode cX12_on 144 = .ok (.if_icmp .ge 36, 3) := by decide +kernel
theorem dX12_on_147 : decode cX12_on 147 = .ok (.aload_n 0, 1) := by decide +kernel
theorem dX12_on_148 : decode cX12_on 148 = .ok (.getfield 92, 3) := by decide +kernel
theorem dX12_on_151 : decode cX12_on 151 = .ok (.bipush 10, 2) := by decide +kernel
theorem dX12_on_153 : decode cX12_on 153 = .ok (.aload_n 0, 1) := by decide +kernel
theorem dX12_on_154 : decode cX12_on 154 = .ok (.iload_n 3, 1) := by decide +kernel
theorem dX12_on_155 : decode cX12_on 155 = .ok (.invokevirtual 484, 3) := by decide +kernel
theorem dX12_on_158 : decode cX12_on 158 = .ok (.imul, 1) := by decide +kernel
theorem dX12_on_159 : decode cX12_on 159 = .ok (.iload 4, 2) := by decide +kernel
theorem dX12_on_161 : decode cX12_on 161 = .ok (.iadd, 1) := by decide +kernel
theorem dX12_on_162 : decode cX12_on 162 = .ok (.aload_n 0, 1) := by decide +kernel
theorem dX12_on_163 : decode cX12_on 163 = .ok (.getfield 7, 3) := by decide +kernel
theorem dX12_on_166 : decode cX12_on 166 = .ok (.iload_n 2, 1) := by decide +kernel
theorem dX12_on_167 : decode cX12_on 167 = .ok (.iconst 2, 1) := by decide +kernel
theorem dX12_on_168 : decode cX12_on 168 = .ok (.iadd, 1) := by decide +kernel
theorem dX12_on_169 : decode cX12_on 169 = .ok (.iload 4, 2) := by decide +kernel
theorem dX12_on_171 : decode cX12_on 171 = .ok (.iadd, 1) := by decide +kernel
theorem dX12_on_172 : decode cX12_on 172 = .ok (.iaload, 1) := by decide +kernel
theorem dX12_on_173 : decode cX12_on 173 = .ok (.iastore, 1) := by decide +kernel
theorem dX12_on_174 : decode cX12_on 174 = .ok (.iinc 4 1, 3) := by decide +kernel
theorem dX12_on_177 : decode cX12_on 177 = .ok (.goto (-43), 3) := by decide +kernel
theorem dX12_on_180 : decode cX12_on 180 = .ok (.iload_n 2, 1) := by decide +kernel
theorem dX12_on_181 : decode cX12_on 181 = .ok (.iconst 2, 1) := by decide +kernel
theorem dX12_on_182 : decode cX12_on 182 = .ok (.aload_n 0, 1) := by decide +kernel
theorem dX12_on_183 : decode cX12_on 183 = .ok (.getfield 7, 3) := by decide +kernel
theorem dX12_on_186 : decode cX12_on 186 = .ok (.iload_n 2, 1) := by decide +kernel
theorem dX12_on_187 : decode cX12_on 187 = .ok (.iconst 1, 1) := by decide +kernel
theorem dX12_on_188 : decode cX12_on 188 = .ok (.iadd, 1) := by decide +kernel
theorem dX12_on_189 : decode cX12_on 189 = .ok (.iaload, 1) := by decide +kernel
theorem dX12_on_190 : decode cX12_on 190 = .ok (.iadd, 1) := by decide +kernel
theorem dX12_on_191 : decode cX12_on 191 = .ok (.iadd, 1) := by decide +kernel
theorem dX12_on_192 : decode cX12_on 192 = .ok (.istore_n 2, 1) := by decide +kernel
theorem dX12_on_193 : decode cX12_on 193 = .ok (.iinc 3 1, 3) := by decide +kernel
theorem dX12_on_196 : decode cX12_on 196 = .ok (.goto (-112), 3) := by decide +kernel
theorem dX12_on_199 : decode cX12_on 199 = .ok (.iconst 1, 1) := by decide +kernel
theorem dX12_on_200 : decode cX12_on 200 = .ok (.ireturn, 1) := by decide +kernel
