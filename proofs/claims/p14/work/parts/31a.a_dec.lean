theorem dX12_ahead_0 : decode cX12_ahead 0 = .ok (.aload_n 0, 1) := by decide +kernel
theorem dX12_ahead_1 : decode cX12_ahead 1 = .ok (.getfield 26, 3) := by decide +kernel
theorem dX12_ahead_4 : decode cX12_ahead 4 = .ok (.istore_n 1, 1) := by decide +kernel
theorem dX12_ahead_5 : decode cX12_ahead 5 = .ok (.iload_n 1, 1) := by decide +kernel
theorem dX12_ahead_6 : decode cX12_ahead 6 = .ok (.aload_n 0, 1) := by decide +kernel
theorem dX12_ahead_7 : decode cX12_ahead 7 = .ok (.getfield 17, 3) := by decide +kernel
theorem dX12_ahead_10 : decode cX12_ahead 10 = .ok (.if_icmp .ge 31, 3) := by decide +kernel
theorem dX12_ahead_13 : decode cX12_ahead 13 = .ok (.aload_n 0, 1) := by decide +kernel
theorem dX12_ahead_14 : decode cX12_ahead 14 = .ok (.getfield 7, 3) := by decide +kernel
theorem dX12_ahead_17 : decode cX12_ahead 17 = .ok (.iload_n 1, 1) := by decide +kernel
theorem dX12_ahead_18 : decode cX12_ahead 18 = .ok (.iaload, 1) := by decide +kernel
theorem dX12_ahead_19 : decode cX12_ahead 19 = .ok (.bipush 32, 2) := by decide +kernel
theorem dX12_ahead_21 : decode cX12_ahead 21 = .ok (.if_icmp .eq 14, 3) := by decide +kernel
theorem dX12_ahead_24 : decode cX12_ahead 24 = .ok (.aload_n 0, 1) := by decide +kernel
theorem dX12_ahead_25 : decode cX12_ahead 25 = .ok (.getfield 7, 3) := by decide +kernel
theorem dX12_ahead_28 : decode cX12_ahead 28 = .ok (.iload_n 1, 1) := by decide +kernel
theorem dX12_ahead_29 : decode cX12_ahead 29 = .ok (.iaload, 1) := by decide +kernel
theorem dX12_ahead_30 : decode cX12_ahead 30 = .ok (.bipush 10, 2) := by decide +kernel
theorem dX12_ahead_32 : decode cX12_ahead 32 = .ok (.if_icmp .ne 9, 3) := by decide +kernel
theorem dX12_ahead_35 : decode cX12_ahead 35 = .ok (.iinc 1 1, 3) := by decide +kernel
theorem dX12_ahead_38 : decode cX12_ahead 38 = .ok (.goto (-33), 3) := by decide +kernel
theorem dX12_ahead_41 : decode cX12_ahead 41 = .ok (.aload_n 0, 1) := by decide +kernel
theorem dX12_ahead_42 : decode cX12_ahead 42 = .ok (.iload_n 1, 1) := by decide +kernel
theorem dX12_ahead_43 : decode cX12_ahead 43 = .ok (.putfield 23, 3) := by decide +kernel
theorem dX12_ahead_46 : decode cX12_ahead 46 = .ok (.aload_n 0, 1) := by decide +kernel
theorem dX12_ahead_47 : decode cX12_ahead 47 = .ok (.iload_n 1, 1) := by decide +kernel
theorem dX12_ahead_48 : decode cX12_ahead 48 = .ok (.putfield 26, 3) := by decide +kernel
theorem dX12_ahead_51 : decode cX12_ahead 51 = .ok (.aload_n 0, 1) := by decide +kernel
theorem dX12_ahead_52 : decode cX12_ahead 52 = .ok (.iconst 0, 1) := by decide +kernel
theorem dX12_ahead_53 : decode cX12_ahead 53 = .ok (.putfield 20, 3) := by decide +kernel
theorem dX12_ahead_56 : decode cX12_ahead 56 = .ok (.iload_n 1, 1) := by decide +kernel
theorem dX12_ahead_57 : decode cX12_ahead 57 = .ok (.aload_n 0, 1) := by decide +kernel
theorem dX12_ahead_58 : decode cX12_ahead 58 = .ok (.getfield 17, 3) := by decide +kernel
theorem dX12_ahead_61 : decode cX12_ahead 61 = .ok (.if_icmp .lt 4, 3) := by decide +kernel
theorem dX12_ahead_64 : decode cX12_ahead 64 = .ok (.return_, 1) := by decide +kernel
theorem dX12_ahead_65 : decode cX12_ahead 65 = .ok (.aload_n 0, 1) := by decide +kernel
theorem dX12_ahead_66 : decode cX12_ahead 66 = .ok (.getfield 7, 3) := by decide +kernel
theorem dX12_ahead_69 : decode cX12_ahead 69 = .ok (.iload_n 1, 1) := by decide +kernel
theorem dX12_ahead_70 : decode cX12_ahead 70 = .ok (.iaload, 1) := by decide +kernel
theorem dX12_ahead_71 : decode cX12_ahead 71 = .ok (.invokestatic 279, 3) := by decide +kernel
theorem dX12_ahead_74 : decode cX12_ahead 74 = .ok (.istore_n 2, 1) := by decide +kernel
theorem dX12_ahead_75 : decode cX12_ahead 75 = .ok (.aload_n 0, 1) := by decide +kernel
theorem dX12_ahead_76 : decode cX12_ahead 76 = .ok (.getfield 7, 3) := by decide +kernel
theorem dX12_ahead_79 : decode cX12_ahead 79 = .ok (.iload_n 1, 1) := by decide +kernel
theorem dX12_ahead_80 : decode cX12_ahead 80 = .ok (.iaload, 1) := by decide +kernel
theorem dX12_ahead_81 : decode cX12_ahead 81 = .ok (.invokestatic 283, 3) := by decide +kernel
theorem dX12_ahead_84 : decode cX12_ahead 84 = .ok (.istore_n 3, 1) := by decide +kernel
theorem dX12_ahead_85 : decode cX12_ahead 85 = .ok (.iload_n 2, 1) := by decide +kernel
theorem dX12_ahead_86 : decode cX12_ahead 86 = .ok (.ifCond .ne 7, 3) := by decide +kernel
theorem dX12_ahead_89 : decode cX12_ahead 89 = .ok (.iload_n 3, 1) := by decide +kernel
theorem dX12_ahead_90 : decode cX12_ahead 90 = .ok (.ifCond .eq 41, 3) := by decide +kernel
theorem dX12_ahead_93 : decode cX12_ahead 93 = .ok (.iload_n 1, 1) := by decide +kernel
theorem dX12_ahead_94 : decode cX12_ahead 94 = .ok (.ifCond .le 37, 3) := by decide +kernel
theorem dX12_ahead_97 : decode cX12_ahead 97 = .ok (.aload_n 0, 1) := by decide +kernel
theorem dX12_ahead_98 : decode cX12_ahead 98 = .ok (.getfield 7, 3) := by decide +kernel
theorem dX12_ahead_101 : decode cX12_ahead 101 = .ok (.iload_n 1, 1) := by decide +kernel
theorem dX12_ahead_102 : decode cX12_ahead 102 = .ok (.iconst 1, 1) := by decide +kernel
theorem dX12_ahead_103 : decode cX12_ahead 103 = .ok (.isub, 1) := by decide +kernel
theorem dX12_ahead_104 : decode cX12_ahead 104 = .ok (.iaload, 1) := by decide +kernel
theorem dX12_ahead_105 : decode cX12_ahead 105 = .ok (.invokestatic 279, 3) := by decide +kernel
theorem dX12_ahead_108 : decode cX12_ahead 108 = .ok (.ifCond .ne 17, 3) := by decide +kernel
theorem dX12_ahead_111 : decode cX12_ahead 111 = .ok (.aload_n 0, 1) := by decide +kernel
theorem dX12_ahead_112 : decode cX12_ahead 112 = .ok (.getfield 7, 3) := by decide +kernel
theorem dX12_ahead_115 : decode cX12_ahead 115 = .ok (.iload_n 1, 1) := by decide +kernel
theorem dX12_ahead_116 : decode cX12_ahead 116 = .ok (.iconst 1, 1) := by decide +kernel
theorem dX12_ahead_117 : decode cX12_ahead 117 = .ok (.isub, 1) := by decide +kernel
theorem dX12_ahead_118 : decode cX12_ahead 118 = .ok (.iaload, 1) := by decide +kernel
theorem dX12_ahead_119 : decode cX12_ahead 119 = .ok (.invokestatic 283, 3) := by decide +kernel
theorem dX12_ahead_122 : decode cX12_ahead 122 = .ok (.ifCond .eq 9, 3) := by decide +kernel
theorem dX12_ahead_125 : decode cX12_ahead 125 = .ok (.aload_n 0, 1) := by decide +kernel
theorem dX12_ahead_126 : decode cX12_ahead 126 = .ok (.iconst 1, 1) := by decide +kernel
theorem dX12_ahead_127 : decode cX12_ahead 127 = .ok (.iload_n 1, 1) := by decide +kernel
theorem dX12_ahead_128 : decode cX12_ahead 128 = .ok (.invokevirtual 286, 3) := by decide +kernel
theorem dX12_ahead_131 : decode cX12_ahead 131 = .ok (.aload_n 0, 1) := by decide +kernel
theorem dX12_ahead_132 : decode cX12_ahead 132 = .ok (.iconst 0, 1) := by decide +kernel
theorem dX12_ahead_133 : decode cX12_ahead 133 = .ok (.putfield 29, 3) := by decide +kernel
theorem dX12_ahead_136 : decode cX12_ahead 136 = .ok (.aload_n 0, 1) := by decide +kernel
theorem dX12_ahead_137 : decode cX12_ahead 137 = .ok (.lconst 0, 1) := by decide +kernel
theorem dX12_ahead_138 : decode cX12_ahead 138 = .ok (.putfield 32, 3) := by decide +kernel
theorem dX12_ahead_141 : decode cX12_ahead 141 = .ok (.aload_n 0, 1) := by decide +kernel
theorem dX12_ahead_142 : decode cX12_ahead 142 = .ok (.iconst 3, 1) := by decide +kernel
theorem dX12_ahead_143 : decode cX12_ahead 143 = .ok (.putfield 20, 3) := by decide +kernel
theorem dX12_ahead_146 : decode cX12_ahead 146 = .ok (.aload_n 0, 1) := by decide +kernel
theorem dX12_ahead_147 : decode cX12_ahead 147 = .ok (.iload_n 1, 1) := by decide +kernel
theorem dX12_ahead_148 : decode cX12_ahead 148 = .ok (.iconst 1, 1) := by decide +kernel
theorem dX12_ahead_149 : decode cX12_ahead 149 = .ok (.iadd, 1) := by decide +kernel
theorem dX12_ahead_150 : decode cX12_ahead 150 = .ok (.putfield 26, 3) := by decide +kernel
theorem dX12_ahead_153 : decode cX12_ahead 153 = .ok (.iload_n 2, 1) := by decide +kernel
theorem dX12_ahead_154 : decode cX12_ahead 154 = .ok (.ifCond .ne 18, 3) := by decide +kernel
theorem dX12_ahead_157 : decode cX12_ahead 157 = .ok (.iload_n 3, 1) := by decide +kernel
theorem dX12_ahead_158 : decode cX12_ahead 158 = .ok (.ifCond .ne 14, 3) := by decide +kernel
theorem dX12_ahead_161 : decode cX12_ahead 161 = .ok (.aload_n 0, 1) := by decide +kernel
theorem dX12_ahead_162 : decode cX12_ahead 162 = .ok (.aload_n 0, 1) := by decide +kernel
theorem dX12_ahead_163 : decode cX12_ahead 163 = .ok (.getfield 7, 3) := by decide +kernel
theorem dX12_ahead_166 : decode cX12_ahead 166 = .ok (.iload_n 1, 1) := by decide +kernel
theorem dX12_ahead_167 : decode cX12_ahead 167 = .ok (.iaload, 1) := by decide +kernel
theorem dX12_ahead_168 : decode cX12_ahead 168 = .ok (.putfield 29, 3) := by decide +kernel
theorem dX12_ahead_171 : decode cX12_ahead 171 = .ok (.return_, 1) := by decide +kernel
theorem dX12_ahead_172 : decode cX12_ahead 172 = .ok (.aload_n 0, 1) := by decide +kernel
theorem dX12_ahead_173 : decode cX12_ahead 173 = .ok (.iload_n 2, 1) := by decide +kernel
theorem dX12_ahead_174 : decode cX12_ahead 174 = .ok (.ifCond .eq 7, 3) := by decide +kernel
theorem dX12_ahead_177 : decode cX12_ahead 177 = .ok (.iconst 1, 1) := by decide +kernel
theorem dX12_ahead_178 : decode cX12_ahead 178 = .ok (.goto 4, 3) := by decide +kernel
theorem dX12_ahead_181 : decode cX12_ahead 181 = .ok (.iconst 2, 1) := by decide +kernel
theorem dX12_ahead_182 : decode cX12_ahead 182 = .ok (.putfield 20, 3) := by decide +kernel
theorem dX12_ahead_185 : decode cX12_ahead 185 = .ok (.iload_n 2, 1) := by decide +kernel
theorem dX12_ahead_186 : decode cX12_ahead 186 = .ok (.ifCond .eq 8, 3) := by decide +kernel
theorem dX12_ahead_189 : decode cX12_ahead 189 = .ok (.bipush 6, 2) := by decide +kernel
theorem dX12_ahead_191 : decode cX12_ahead 191 = .ok (.goto 4, 3) := by decide +kernel
theorem dX12_ahead_194 : decode cX12_ahead 194 = .ok (.iconst 4, 1) := by decide +kernel
theorem dX12_ahead_195 : decode cX12_ahead 195 = .ok (.istore 4, 2) := by decide +kernel
theorem dX12_ahead_197 : decode cX12_ahead 197 = .ok (.iconst 0, 1) := by decide +kernel
theorem dX12_ahead_198 : decode cX12_ahead 198 = .ok (.istore 5, 2) := by decide +kernel
theorem dX12_ahead_200 : decode cX12_ahead 200 = .ok (.iload_n 1, 1) := by decide +kernel
theorem dX12_ahead_201 : decode cX12_ahead 201 = .ok (.aload_n 0, 1) := by decide +kernel
theorem dX12_ahead_202 : decode cX12_ahead 202 = .ok (.getfield 17, 3) := by decide +kernel
theorem dX12_ahead_205 : decode cX12_ahead 205 = .ok (.if_icmp .ge 118, 3) := by decide +kernel
theorem dX12_ahead_208 : decode cX12_ahead 208 = .ok (.iload_n 2, 1) := by decide +kernel
theorem dX12_ahead_209 : decode cX12_ahead 209 = .ok (.ifCond .eq 18, 3) := by decide +kernel
theorem dX12_ahead_212 : decode cX12_ahead 212 = .ok (.aload_n 0, 1) := by decide +kernel
theorem dX12_ahead_213 : decode cX12_ahead 213 = .ok (.getfield 7, 3) := by decide +kernel
theorem dX12_ahead_216 : decode cX12_ahead 216 = .ok (.iload_n 1, 1) := by decide +kernel
theorem dX12_ahead_217 : decode cX12_ahead 217 = .ok (.iaload, 1) := by decide +kernel
theorem dX12_ahead_218 : decode cX12_ahead 218 = .ok (.invokestatic 279, 3) := by decide +kernel
theorem dX12_ahead_221 : decode cX12_ahead 221 = .ok (.ifCond .eq 102, 3) := by decide +kernel
theorem dX12_ahead_224 : decode cX12_ahead 224 = .ok (.goto 15, 3) := by decide +kernel
theorem dX12_ahead_227 : decode cX12_ahead 227 = .ok (.aload_n 0, 1) := by decide +kernel
theorem dX12_ahead_228 : decode cX12_ahead 228 = .ok (.getfield 7, 3) := by decide +kernel
theorem dX12_ahead_231 : decode cX12_ahead 231 = .ok (.iload_n 1, 1) := by decide +kernel
theorem dX12_ahead_232 : decode cX12_ahead 232 = .ok (.iaload, 1) := by decide +kernel
theorem dX12_ahead_233 : decode cX12_ahead 233 = .ok (.invokestatic 283, 3) := by decide +kernel
theorem dX12_ahead_236 : decode cX12_ahead 236 = .ok (.ifCond .eq 87, 3) := by decide +kernel
theorem dX12_ahead_239 : decode cX12_ahead 239 = .ok (.iload 5, 2) := by decide +kernel
theorem dX12_ahead_241 : decode cX12_ahead 241 = .ok (.iload 4, 2) := by decide +kernel
theorem dX12_ahead_243 : decode cX12_ahead 243 = .ok (.if_icmp .ne 9, 3) := by decide +kernel
theorem dX12_ahead_246 : decode cX12_ahead 246 = .ok (.aload_n 0, 1) := by decide +kernel
theorem dX12_ahead_247 : decode cX12_ahead 247 = .ok (.iconst 1, 1) := by decide +kernel
theorem dX12_ahead_248 : decode cX12_ahead 248 = .ok (.iload_n 1, 1) := by decide +kernel
theorem dX12_ahead_249 : decode cX12_ahead 249 = .ok (.invokevirtual 286, 3) := by decide +kernel
theorem dX12_ahead_252 : decode cX12_ahead 252 = .ok (.iload 5, 2) := by decide +kernel
theorem dX12_ahead_254 : decode cX12_ahead 254 = .ok (.iload 4, 2) := by decide +kernel
theorem dX12_ahead_256 : decode cX12_ahead 256 = .ok (.if_icmp .ge 26, 3) := by decide +kernel
theorem dX12_ahead_259 : decode cX12_ahead 259 = .ok (.iload_n 2, 1) := by decide +kernel
theorem dX12_ahead_260 : decode cX12_ahead 260 = .ok (.ifCond .eq 22, 3) := by decide +kernel
theorem dX12_ahead_263 : decode cX12_ahead 263 = .ok (.aload_n 0, 1) := by decide +kernel
theorem dX12_ahead_264 : decode cX12_ahead 264 = .ok (.aload_n 0, 1) := by decide +kernel
theorem dX12_ahead_265 : decode cX12_ahead 265 = .ok (.getfield 32, 3) := by decide +kernel
theorem dX12_ahead_268 : decode cX12_ahead 268 = .ok (.bipush 8, 2) := by decide +kernel
theorem dX12_ahead_270 : decode cX12_ahead 270 = .ok (.lshl, 1) := by decide +kernel
theorem dX12_ahead_271 : decode cX12_ahead 271 = .ok (.aload_n 0, 1) := by decide +kernel
theorem dX12_ahead_272 : decode cX12_ahead 272 = .ok (.getfield 7, 3) := by decide +kernel
theorem dX12_ahead_275 : decode cX12_ahead 275 = .ok (.iload_n 1, 1) := by decide +kernel
theorem dX12_ahead_276 : decode cX12_ahead 276 = .ok (.iaload, 1) := by decide +kernel
theorem dX12_ahead_277 : decode cX12_ahead 277 = .ok (.i2l, 1) := by decide +kernel
theorem dX12_ahead_278 : decode cX12_ahead 278 = .ok (.lor, 1) := by decide +kernel
theorem dX12_ahead_279 : decode cX12_ahead 279 = .ok (.putfield 32, 3) := by decide +kernel
theorem dX12_ahead_282 : decode cX12_ahead 282 = .ok (.iload 5, 2) := by decide +kernel
theorem dX12_ahead_284 : decode cX12_ahead 284 = .ok (.iload 4, 2) := by decide +kernel
theorem dX12_ahead_286 : decode cX12_ahead 286 = .ok (.if_icmp .ge 28, 3) := by decide +kernel
theorem dX12_ahead_289 : decode cX12_ahead 289 = .ok (.iload_n 3, 1) := by decide +kernel
theorem dX12_ahead_290 : decode cX12_ahead 290 = .ok (.ifCond .eq 24, 3) := by decide +kernel
theorem dX12_ahead_293 : decode cX12_ahead 293 = .ok (.aload_n 0, 1) := by decide +kernel
theorem dX12_ahead_294 : decode cX12_ahead 294 = .ok (.bipush 10, 2) := by decide +kernel
theorem dX12_ahead_296 : decode cX12_ahead 296 = .ok (.aload_n 0, 1) := by decide +kernel
theorem dX12_ahead_297 : decode cX12_ahead 297 = .ok (.getfield 29, 3) := by decide +kernel
theorem dX12_ahead_300 : decode cX12_ahead 300 = .ok (.imul, 1) := by decide +kernel
theorem dX12_ahead_301 : decode cX12_ahead 301 = .ok (.aload_n 0, 1) := by decide +kernel
theorem dX12_ahead_302 : decode cX12_ahead 302 = .ok (.getfield 7, 3) := by decide +kernel
theorem dX12_ahead_305 : decode cX12_ahead 305 = .ok (.iload_n 1, 1) := by decide +kernel
theorem dX12_ahead_306 : decode cX12_ahead 306 = .ok (.iaload, 1) := by decide +kernel
theorem dX12_ahead_307 : decode cX12_ahead 307 = .ok (.iadd, 1) := by decide +kernel
theorem dX12_ahead_308 : decode cX12_ahead 308 = .ok (.bipush 48, 2) := by decide +kernel
theorem dX12_ahead_310 : decode cX12_ahead 310 = .ok (.isub, 1) := by decide +kernel
theorem dX12_ahead_311 : decode cX12_ahead 311 = .ok (.putfield 29, 3) := by decide +kernel
theorem dX12_ahead_314 : decode cX12_ahead 314 = .ok (.iinc 5 1, 3) := by decide +kernel
theorem dX12_ahead_317 : decode cX12_ahead 317 = .ok (.iinc 1 1, 3) := by decide +kernel
theorem dX12_ahead_320 : decode cX12_ahead 320 = .ok (.goto (-120), 3) := by decide +kernel
theorem dX12_ahead_323 : decode cX12_ahead 323 = .ok (.aload_n 0, 1) := by decide +kernel
theorem dX12_ahead_324 : decode cX12_ahead 324 = .ok (.iload_n 1, 1) := by decide +kernel
theorem dX12_ahead_325 : decode cX12_ahead 325 = .ok (.putfield 26, 3) := by decide +kernel
theorem dX12_ahead_328 : decode cX12_ahead 328 = .ok (.return_, 1) := by decide +kernel
