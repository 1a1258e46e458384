theorem dX12_wanting_0 : decode cX12_wanting 0 = .ok (.aload_n 0, 1) := by decide +kernel
theorem dX12_wanting_1 : decode cX12_wanting 1 = .ok (.aload_n 0, 1) := by decide +kernel
theorem dX12_wanting_2 : decode cX12_wanting 2 = .ok (.getfield 113, 3) := by decide +kernel
theorem dX12_wanting_5 : decode cX12_wanting 5 = .ok (.aload_n 0, 1) := by decide +kernel
theorem dX12_wanting_6 : decode cX12_wanting 6 = .ok (.getfield 155, 3) := by decide +kernel
theorem dX12_wanting_9 : decode cX12_wanting 9 = .ok (.iaload, 1) := by decide +kernel
theorem dX12_wanting_10 : decode cX12_wanting 10 = .ok (.bipush 6, 2) := by decide +kernel
theorem dX12_wanting_12 : decode cX12_wanting 12 = .ok (.if_icmp .ne 7, 3) := by decide +kernel
theorem dX12_wanting_15 : decode cX12_wanting 15 = .ok (.iconst 1, 1) := by decide +kernel
theorem dX12_wanting_16 : decode cX12_wanting 16 = .ok (.goto 4, 3) := by decide +kernel
theorem dX12_wanting_19 : decode cX12_wanting 19 = .ok (.iconst 0, 1) := by decide +kernel
theorem dX12_wanting_20 : decode cX12_wanting 20 = .ok (.invokevirtual 394, 3) := by decide +kernel
theorem dX12_wanting_23 : decode cX12_wanting 23 = .ok (.ifCond .ne 4, 3) := by decide +kernel
theorem dX12_wanting_26 : decode cX12_wanting 26 = .ok (.return_, 1) := by decide +kernel
theorem dX12_wanting_27 : decode cX12_wanting 27 = .ok (.bipush 6, 2) := by decide +kernel
theorem dX12_wanting_29 : decode cX12_wanting 29 = .ok (.aload_n 0, 1) := by decide +kernel
theorem dX12_wanting_30 : decode cX12_wanting 30 = .ok (.getfield 155, 3) := by decide +kernel
theorem dX12_wanting_33 : decode cX12_wanting 33 = .ok (.imul, 1) := by decide +kernel
theorem dX12_wanting_34 : decode cX12_wanting 34 = .ok (.aload_n 0, 1) := by decide +kernel
theorem dX12_wanting_35 : decode cX12_wanting 35 = .ok (.getfield 113, 3) := by decide +kernel
theorem dX12_wanting_38 : decode cX12_wanting 38 = .ok (.aload_n 0, 1) := by decide +kernel
theorem dX12_wanting_39 : decode cX12_wanting 39 = .ok (.getfield 155, 3) := by decide +kernel
theorem dX12_wanting_42 : decode cX12_wanting 42 = .ok (.iaload, 1) := by decide +kernel
theorem dX12_wanting_43 : decode cX12_wanting 43 = .ok (.iadd, 1) := by decide +kernel
theorem dX12_wanting_44 : decode cX12_wanting 44 = .ok (.istore_n 1, 1) := by decide +kernel
theorem dX12_wanting_45 : decode cX12_wanting 45 = .ok (.aload_n 0, 1) := by decide +kernel
theorem dX12_wanting_46 : decode cX12_wanting 46 = .ok (.getfield 36, 3) := by decide +kernel
theorem dX12_wanting_49 : decode cX12_wanting 49 = .ok (.ifCond .ne 34, 3) := by decide +kernel
theorem dX12_wanting_52 : decode cX12_wanting 52 = .ok (.aload_n 0, 1) := by decide +kernel
theorem dX12_wanting_53 : decode cX12_wanting 53 = .ok (.getfield 20, 3) := by decide +kernel
theorem dX12_wanting_56 : decode cX12_wanting 56 = .ok (.iconst 1, 1) := by decide +kernel
theorem dX12_wanting_57 : decode cX12_wanting 57 = .ok (.if_icmp .ne 26, 3) := by decide +kernel
theorem dX12_wanting_60 : decode cX12_wanting 60 = .ok (.aload_n 0, 1) := by decide +kernel
theorem dX12_wanting_61 : decode cX12_wanting 61 = .ok (.aload_n 0, 1) := by decide +kernel
theorem dX12_wanting_62 : decode cX12_wanting 62 = .ok (.getfield 32, 3) := by decide +kernel
theorem dX12_wanting_65 : decode cX12_wanting 65 = .ok (.invokevirtual 387, 3) := by decide +kernel
theorem dX12_wanting_68 : decode cX12_wanting 68 = .ok (.ifCond .ne 15, 3) := by decide +kernel
theorem dX12_wanting_71 : decode cX12_wanting 71 = .ok (.aload_n 0, 1) := by decide +kernel
theorem dX12_wanting_72 : decode cX12_wanting 72 = .ok (.iconst 3, 1) := by decide +kernel
theorem dX12_wanting_73 : decode cX12_wanting 73 = .ok (.aload_n 0, 1) := by decide +kernel
theorem dX12_wanting_74 : decode cX12_wanting 74 = .ok (.getfield 32, 3) := by decide +kernel
theorem dX12_wanting_77 : decode cX12_wanting 77 = .ok (.invokevirtual 390, 3) := by decide +kernel
theorem dX12_wanting_80 : decode cX12_wanting 80 = .ok (.goto 4, 3) := by decide +kernel
theorem dX12_wanting_83 : decode cX12_wanting 83 = .ok (.iconst (-1), 1) := by decide +kernel
theorem dX12_wanting_84 : decode cX12_wanting 84 = .ok (.istore_n 2, 1) := by decide +kernel
theorem dX12_wanting_85 : decode cX12_wanting 85 = .ok (.iconst 0, 1) := by decide +kernel
theorem dX12_wanting_86 : decode cX12_wanting 86 = .ok (.istore_n 3, 1) := by decide +kernel
theorem dX12_wanting_87 : decode cX12_wanting 87 = .ok (.bipush 6, 2) := by decide +kernel
theorem dX12_wanting_89 : decode cX12_wanting 89 = .ok (.aload_n 0, 1) := by decide +kernel
theorem dX12_wanting_90 : decode cX12_wanting 90 = .ok (.getfield 155, 3) := by decide +kernel
theorem dX12_wanting_93 : decode cX12_wanting 93 = .ok (.imul, 1) := by decide +kernel
theorem dX12_wanting_94 : decode cX12_wanting 94 = .ok (.istore 4, 2) := by decide +kernel
theorem dX12_wanting_96 : decode cX12_wanting 96 = .ok (.iload 4, 2) := by decide +kernel
theorem dX12_wanting_98 : decode cX12_wanting 98 = .ok (.iload_n 1, 1) := by decide +kernel
theorem dX12_wanting_99 : decode cX12_wanting 99 = .ok (.if_icmp .ge 28, 3) := by decide +kernel
theorem dX12_wanting_102 : decode cX12_wanting 102 = .ok (.iload_n 3, 1) := by decide +kernel
theorem dX12_wanting_103 : decode cX12_wanting 103 = .ok (.aload_n 0, 1) := by decide +kernel
theorem dX12_wanting_104 : decode cX12_wanting 104 = .ok (.getfield 116, 3) := by decide +kernel
theorem dX12_wanting_107 : decode cX12_wanting 107 = .ok (.iload 4, 2) := by decide +kernel
theorem dX12_wanting_109 : decode cX12_wanting 109 = .ok (.iaload, 1) := by decide +kernel
theorem dX12_wanting_110 : decode cX12_wanting 110 = .ok (.iload_n 2, 1) := by decide +kernel
theorem dX12_wanting_111 : decode cX12_wanting 111 = .ok (.if_icmp .ne 7, 3) := by decide +kernel
theorem dX12_wanting_114 : decode cX12_wanting 114 = .ok (.iconst 1, 1) := by decide +kernel
theorem dX12_wanting_115 : decode cX12_wanting 115 = .ok (.goto 4, 3) := by decide +kernel
theorem dX12_wanting_118 : decode cX12_wanting 118 = .ok (.iconst 0, 1) := by decide +kernel
theorem dX12_wanting_119 : decode cX12_wanting 119 = .ok (.iadd, 1) := by decide +kernel
theorem dX12_wanting_120 : decode cX12_wanting 120 = .ok (.istore_n 3, 1) := by decide +kernel
theorem dX12_wanting_121 : decode cX12_wanting 121 = .ok (.iinc 4 1, 3) := by decide +kernel
theorem dX12_wanting_124 : decode cX12_wanting 124 = .ok (.goto (-28), 3) := by decide +kernel
theorem dX12_wanting_127 : decode cX12_wanting 127 = .ok (.iload_n 2, 1) := by decide +kernel
theorem dX12_wanting_128 : decode cX12_wanting 128 = .ok (.iconst (-1), 1) := by decide +kernel
theorem dX12_wanting_129 : decode cX12_wanting 129 = .ok (.if_icmp .eq 17, 3) := by decide +kernel
theorem dX12_wanting_132 : decode cX12_wanting 132 = .ok (.iload_n 3, 1) := by decide +kernel
theorem dX12_wanting_133 : decode cX12_wanting 133 = .ok (.iconst 2, 1) := by decide +kernel
theorem dX12_wanting_134 : decode cX12_wanting 134 = .ok (.if_icmp .ne 12, 3) := by decide +kernel
theorem dX12_wanting_137 : decode cX12_wanting 137 = .ok (.aload_n 0, 1) := by decide +kernel
theorem dX12_wanting_138 : decode cX12_wanting 138 = .ok (.iconst 3, 1) := by decide +kernel
theorem dX12_wanting_139 : decode cX12_wanting 139 = .ok (.aload_n 0, 1) := by decide +kernel
theorem dX12_wanting_140 : decode cX12_wanting 140 = .ok (.getfield 23, 3) := by decide +kernel
theorem dX12_wanting_143 : decode cX12_wanting 143 = .ok (.invokevirtual 286, 3) := by decide +kernel
theorem dX12_wanting_146 : decode cX12_wanting 146 = .ok (.aload_n 0, 1) := by decide +kernel
theorem dX12_wanting_147 : decode cX12_wanting 147 = .ok (.getfield 116, 3) := by decide +kernel
theorem dX12_wanting_150 : decode cX12_wanting 150 = .ok (.iload_n 1, 1) := by decide +kernel
theorem dX12_wanting_151 : decode cX12_wanting 151 = .ok (.aload_n 0, 1) := by decide +kernel
theorem dX12_wanting_152 : decode cX12_wanting 152 = .ok (.iconst 3, 1) := by decide +kernel
theorem dX12_wanting_153 : decode cX12_wanting 153 = .ok (.invokevirtual 406, 3) := by decide +kernel
theorem dX12_wanting_156 : decode cX12_wanting 156 = .ok (.iastore, 1) := by decide +kernel
theorem dX12_wanting_157 : decode cX12_wanting 157 = .ok (.bipush 6, 2) := by decide +kernel
theorem dX12_wanting_159 : decode cX12_wanting 159 = .ok (.aload_n 0, 1) := by decide +kernel
theorem dX12_wanting_160 : decode cX12_wanting 160 = .ok (.getfield 155, 3) := by decide +kernel
theorem dX12_wanting_163 : decode cX12_wanting 163 = .ok (.imul, 1) := by decide +kernel
theorem dX12_wanting_164 : decode cX12_wanting 164 = .ok (.istore 4, 2) := by decide +kernel
theorem dX12_wanting_166 : decode cX12_wanting 166 = .ok (.iload 4, 2) := by decide +kernel
theorem dX12_wanting_168 : decode cX12_wanting 168 = .ok (.iload_n 1, 1) := by decide +kernel
theorem dX12_wanting_169 : decode cX12_wanting 169 = .ok (.if_icmp .ge 44, 3) := by decide +kernel
theorem dX12_wanting_172 : decode cX12_wanting 172 = .ok (.aload_n 0, 1) := by decide +kernel
theorem dX12_wanting_173 : decode cX12_wanting 173 = .ok (.getfield 36, 3) := by decide +kernel
theorem dX12_wanting_176 : decode cX12_wanting 176 = .ok (.ifCond .ne 37, 3) := by decide +kernel
theorem dX12_wanting_179 : decode cX12_wanting 179 = .ok (.aload_n 0, 1) := by decide +kernel
theorem dX12_wanting_180 : decode cX12_wanting 180 = .ok (.getfield 116, 3) := by decide +kernel
theorem dX12_wanting_183 : decode cX12_wanting 183 = .ok (.iload 4, 2) := by decide +kernel
theorem dX12_wanting_185 : decode cX12_wanting 185 = .ok (.iaload, 1) := by decide +kernel
theorem dX12_wanting_186 : decode cX12_wanting 186 = .ok (.aload_n 0, 1) := by decide +kernel
theorem dX12_wanting_187 : decode cX12_wanting 187 = .ok (.getfield 116, 3) := by decide +kernel
theorem dX12_wanting_190 : decode cX12_wanting 190 = .ok (.iload_n 1, 1) := by decide +kernel
theorem dX12_wanting_191 : decode cX12_wanting 191 = .ok (.iaload, 1) := by decide +kernel
theorem dX12_wanting_192 : decode cX12_wanting 192 = .ok (.if_icmp .ne 15, 3) := by decide +kernel
theorem dX12_wanting_195 : decode cX12_wanting 195 = .ok (.aload_n 0, 1) := by decide +kernel
theorem dX12_wanting_196 : decode cX12_wanting 196 = .ok (.iconst 4, 1) := by decide +kernel
theorem dX12_wanting_197 : decode cX12_wanting 197 = .ok (.aload_n 0, 1) := by decide +kernel
theorem dX12_wanting_198 : decode cX12_wanting 198 = .ok (.getfield 119, 3) := by decide +kernel
theorem dX12_wanting_201 : decode cX12_wanting 201 = .ok (.iload 4, 2) := by decide +kernel
theorem dX12_wanting_203 : decode cX12_wanting 203 = .ok (.iaload, 1) := by decide +kernel
theorem dX12_wanting_204 : decode cX12_wanting 204 = .ok (.invokevirtual 409, 3) := by decide +kernel
theorem dX12_wanting_207 : decode cX12_wanting 207 = .ok (.iinc 4 1, 3) := by decide +kernel
theorem dX12_wanting_210 : decode cX12_wanting 210 = .ok (.goto (-44), 3) := by decide +kernel
theorem dX12_wanting_213 : decode cX12_wanting 213 = .ok (.aload_n 0, 1) := by decide +kernel
theorem dX12_wanting_214 : decode cX12_wanting 214 = .ok (.getfield 119, 3) := by decide +kernel
theorem dX12_wanting_217 : decode cX12_wanting 217 = .ok (.iload_n 1, 1) := by decide +kernel
theorem dX12_wanting_218 : decode cX12_wanting 218 = .ok (.aload_n 0, 1) := by decide +kernel
theorem dX12_wanting_219 : decode cX12_wanting 219 = .ok (.iconst 4, 1) := by decide +kernel
theorem dX12_wanting_220 : decode cX12_wanting 220 = .ok (.invokevirtual 406, 3) := by decide +kernel
theorem dX12_wanting_223 : decode cX12_wanting 223 = .ok (.iastore, 1) := by decide +kernel
theorem dX12_wanting_224 : decode cX12_wanting 224 = .ok (.aload_n 0, 1) := by decide +kernel
theorem dX12_wanting_225 : decode cX12_wanting 225 = .ok (.getfield 36, 3) := by decide +kernel
theorem dX12_wanting_228 : decode cX12_wanting 228 = .ok (.ifCond .ne 16, 3) := by decide +kernel
theorem dX12_wanting_231 : decode cX12_wanting 231 = .ok (.aload_n 0, 1) := by decide +kernel
theorem dX12_wanting_232 : decode cX12_wanting 232 = .ok (.getfield 113, 3) := by decide +kernel
theorem dX12_wanting_235 : decode cX12_wanting 235 = .ok (.aload_n 0, 1) := by decide +kernel
theorem dX12_wanting_236 : decode cX12_wanting 236 = .ok (.getfield 155, 3) := by decide +kernel
theorem dX12_wanting_239 : decode cX12_wanting 239 = .ok (.dup2, 1) := by decide +kernel
theorem dX12_wanting_240 : decode cX12_wanting 240 = .ok (.iaload, 1) := by decide +kernel
theorem dX12_wanting_241 : decode cX12_wanting 241 = .ok (.iconst 1, 1) := by decide +kernel
theorem dX12_wanting_242 : decode cX12_wanting 242 = .ok (.iadd, 1) := by decide +kernel
theorem dX12_wanting_243 : decode cX12_wanting 243 = .ok (.iastore, 1) := by decide +kernel
theorem dX12_wanting_244 : decode cX12_wanting 244 = .ok (.return_, 1) := by decide +kernel
