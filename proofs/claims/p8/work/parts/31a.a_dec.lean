theorem dX12_ahead_0 : decode cX12_ahead 0 = .ok (.aload_n 0, 1) := by decide +kernel
theorem dX12_ahead_1 : decode cX12_ahead 1 = .ok (.getfield 26, 3) := by decide +kernel
theorem dX12_ahead_4 : decode cX12_ahead 4 = .ok (.istore_n 1, 1) := by decide +kernel
theorem dX12_ahead_5 : decode cX12_ahead 5 = .ok (.iload_n 1, 1) := by decide +kernel
theorem dX12_ahead_6 : decode cX12_ahead 6 = .ok (.aload_n 0, 1) := by decide +kernel
theorem dX12_ahead_7 : decode cX12_ahead 7 = .ok (.getfield 17, 3) := by decide +kernel
theorem dX12_ahead_10 : decode cX12_ahead 10 = .ok (.if_icmp .ge 31, 3) := by decide +kernel
theorem dX12_ahead_13 : decode cX12_ahead 13 = .ok (.aload_n 0, 1) := by decide +kernel
theorem dX12_ahead_14 : decode cX12_ahead 14 = .ok (.getfield 7, 3) := by decide +kernel
theorem dX12_ahead_17 : decode cX12_ahead 17 = .ok (.iload_n 1, 1) := by decide +kernel
theorem dX12_ahead_18 : decode cX12_ahead 18 = .ok (.iaload, 1) := by decide +kernel
theorem dX12_ahead_19 : decode cX12_ahead 19 = .ok (.bipush 32, 2) := by decide +kernel
theorem dX12_ahead_21 : decode cX12_ahead 21 = .ok (.if_icmp .eq 14, 3) := by decide +kernel
theorem dX12_ahead_24 : decode cX12_ahead 24 = .ok (.aload_n 0, 1) := by decide +kernel
theorem dX12_ahead_25 : decode cX12_ahead 25 = .ok (.getfield 7, 3) := by decide +kernel
theorem dX12_ahead_28 : decode cX12_ahead 28 = .ok (.iload_n 1, 1) := by decide +kernel
theorem dX12_ahead_29 : decode cX12_ahead 29 = .ok (.iaload, 1) := by decide +kernel
theorem dX12_ahead_30 : decode cX12_ahead 30 = .ok (.bipush 10, 2) := by decide +kernel
theorem dX12_ahead_32 : decode cX12_ahead 32 = .ok (.if_icmp .ne 9, 3) := by decide +kernel
theorem dX12_ahead_35 : decode cX12_ahead 35 = .ok (.iinc 1 1, 3) := by decide +kernel
theorem dX12_ahead_38 : decode cX12_ahead 38 = .ok (.goto (-33), 3) := by decide +kernel
theorem dX12_ahead_41 : decode cX12_ahead 41 = .ok (.aload_n 0, 1) := by decide +kernel
theorem dX12_ahead_42 : decode cX12_ahead 42 = .ok (.iload_n 1, 1) := by decide +kernel
theorem dX12_ahead_43 : decode cX12_ahead 43 = .ok (.putfield 23, 3) := by decide +kernel
theorem dX12_ahead_46 : decode cX12_ahead 46 = .ok (.aload_n 0, 1) := by decide +kernel
theorem dX12_ahead_47 : decode cX12_ahead 47 = .ok (.iload_n 1, 1) := by decide +kernel
theorem dX12_ahead_48 : decode cX12_ahead 48 = .ok (.putfield 26, 3) := by decide +kernel
theorem dX12_ahead_51 : decode cX12_ahead 51 = .ok (.aload_n 0, 1) := by decide +kernel
theorem dX12_ahead_52 : decode cX12_ahead 52 = .ok (.iconst 0, 1) := by decide +kernel
theorem dX12_ahead_53 : decode cX12_ahead 53 = .ok (.putfield 20, 3) := by decide +kernel
theorem dX12_ahead_56 : decode cX12_ahead 56 = .ok (.iload_n 1, 1) := by decide +kernel
theorem dX12_ahead_57 : decode cX12_ahead 57 = .ok (.aload_n 0, 1) := by decide +kernel
theorem dX12_ahead_58 : decode cX12_ahead 58 = .ok (.getfield 17, 3) := by decide +kernel
theorem dX12_ahead_61 : decode cX12_ahead 61 = .ok (.if_icmp .lt 4, 3) := by decide +kernel
theorem dX12_ahead_64 : decode cX12_ahead 64 = .ok (.return_, 1) := by decide +kernel
theorem dX12_ahead_65 : decode cX12_ahead 65 = .ok (.aload_n 0, 1) := by decide +kernel
theorem dX12_ahead_66 : decode cX12_ahead 66 = .ok (.getfield 7, 3) := by decide +kernel
theorem dX12_ahead_69 : decode cX12_ahead 69 = .ok (.iload_n 1, 1) := by decide +kernel
theorem dX12_ahead_70 : decode cX12_ahead 70 = .ok (.iaload, 1) := by decide +kernel
theorem dX12_ahead_71 : decode cX12_ahead 71 = .ok (.invokestatic 279, 3) := by decide +kernel
theorem dX12_ahead_74 : decode cX12_ahead 74 = .ok (.istore_n 2, 1) := by decide +kernel
theorem dX12_ahead_75 : decode cX12_ahead 75 = .ok (.aload_n 0, 1) := by decide +kernel
theorem dX12_ahead_76 : decode cX12_ahead 76 = .ok (.getfield 7, 3) := by decide +kernel
theorem dX12_ahead_79 : decode cX12_ahead 79 = .ok (.iload_n 1, 1) := by decide +kernel
theorem dX12_ahead_80 : decode cX12_ahead 80 = .ok (.iaload, 1) := by decide +kernel
theorem dX12_ahead_81 : decode cX12_ahead 81 = .ok (.invokestatic 283, 3) := by decide +kernel
theorem dX12_ahead_84 : decode cX12_ahead 84 = .ok (.istore_n 3, 1) := by decide +kernel
theorem dX12_ahead_85 : decode cX12_ahead 85 = .ok (.iload_n 2, 1) := by decide +kernel
theorem dX12_ahead_86 : decode cX12_ahead 86 = .ok (.ifCond .ne 7, 3) := by decide +kernel
theorem dX12_ahead_89 : decode cX12_ahead 89 = .ok (.iload_n 3, 1) := by decide +kernel
theorem dX12_ahead_90 : decode cX12_ahead 90 = .ok (.ifCond .eq 41, 3) := by decide +kernel
theorem dX12_ahead_93 : decode cX12_ahead 93 = .ok (.iload_n 1, 1) := by decide +kernel
theorem dX12_ahead_94 : decode cX12_ahead 94 = .ok (.ifCond .le 37, 3) := by decide +kernel
theorem dX12_ahead_97 : decode cX12_ahead 97 = .ok (.aload_n 0, 1) := by decide +kernel
theorem dX12_ahead_98 : decode cX12_ahead 98 = .ok (.getfield 7, 3) := by decide +kernel
theorem dX12_ahead_101 : decode cX12_ahead 101 = .ok (.iload_n 1, 1) := by decide +kernel
theorem dX12_ahead_102 : decode cX12_ahead 102 = .ok (.iconst 1, 1) := by decide +kernel
theorem dX12_ahead_103 : decode cX12_ahead 103 = .ok (.isub, 1) := by decide +kernel
theorem dX12_ahead_104 : decode cX12_ahead 104 = .ok (.iaload, 1) := by decide +kernel
theorem dX12_ahead_105 : decode cX12_ahead 105 = .ok (.invokestatic 279, 3) := by decide +kernel
theorem dX12_ahead_108 : decode cX12_ahead 108 = .ok (.ifCond .ne 17, 3) := by decide +kernel
theorem dX12_ahead_111 : decode cX12_ahead 111 = .ok (.aload_n 0, 1) := by decide +kernel
theorem dX12_ahead_112 : decode cX12_ahead 112 = .ok (.getfield 7, 3) := by decide +kernel
theorem dX12_ahead_115 : decode cX12_ahead 115 = .ok (.iload_n 1, 1) := by decide +kernel
theorem dX12_ahead_116 : decode cX12_ahead 116 = .ok (.iconst 1, 1) := by decide +kernel
theorem dX12_ahead_117 : decode cX12_ahead 117 = .ok (.isub, 1) := by decide +kernel
theorem dX12_ahead_118 : decode cX12_ahead 118 = .ok (.iaload, 1) := by decide +kernel
theorem dX12_ahead_119 : decode cX12_ahead 119 = .ok (.invokestatic 283, 3) := by decide +kernel
theorem dX12_ahead_122 : decode cX12_ahead 122 = .ok (.ifCond .eq 9, 3) := by decide +kernel
theorem dX12_ahead_125 : decode cX12_ahead 125 = .ok (.aload_n 0, 1) := by decide +kernel
theorem dX12_ahead_126 : decode cX12_ahead 126 = .ok (.iconst 1, 1) := by decide +kernel
theorem dX12_ahead_127 : decode cX12_ahead 127 = .ok (.iload_n 1, 1) := by decide +kernel
theorem dX12_ahead_128 : decode cX12_ahead 128 = .ok (.invokevirtual 286, 3) := by decide +kernel
theorem dX12_ahead_131 : decode cX12_ahead 131 = .ok (.aload_n 0, 1) := by decide +kernel
theorem dX12_ahead_132 : decode cX12_ahead 132 = .ok (.iconst 0, 1) := by decide +kernel
theorem dX12_ahead_133 : decode cX12_ahead 133 = .ok (.putfield 29, 3) := by decide +kernel
theorem dX12_ahead_136 : decode cX12_ahead 136 = .ok (.aload_n 0, 1) := by decide +kernel
theorem dX12_ahead_137 : decode cX12_ahead 137 = .ok (.lconst 0, 1) := by decide +kernel
theorem dX12_ahead_138 : decode cX12_ahead 138 = .ok (.putfield 32, 3) := by decide +kernel
theorem dX12_ahead_141 : decode cX12_ahead 141 = .ok (.aload_n 0, 1) := by decide +kernel
theorem dX12_ahead_142 : decode cX12_ahead 142 = .ok (.iconst 3, 1) := by decide +kernel
theorem dX12_ahead_143 : decode cX12_ahead 143 = .ok (.putfield 20, 3) := by decide +kernel
theorem dX12_ahead_146 : decode cX12_ahead 146 = .ok (.aload_n 0, 1) := by decide +kernel
theorem dX12_ahead_147 : decode cX12_ahead 147 = .ok (.iload_n 1, 1) := by decide +kernel
theorem dX12_ahead_148 : decode cX12_ahead 148 = .ok (.iconst 1, 1) := by decide +kernel
theorem dX12_ahead_149 : decode cX12_ahead 149 = .ok (.iadd, 1) := by decide +kernel
theorem dX12_ahead_150 : decode cX12_ahead 150 = .ok (.putfield 26, 3) := by decide +kernel
theorem dX12_ahead_153 : decode cX12_ahead 153 = .ok (.iload_n 2, 1) := by decide +kernel
theorem dX12_ahead_154 : decode cX12_ahead 154 = .ok (.ifCond .ne 18, 3) := by decide +kernel
theorem dX12_ahead_157 : decode cX12_ahead 157 = .ok (.iload_n 3, 1) := by decide +kernel
theorem dX12_ahead_158 : decode cX12_ahead 158 = .ok (.ifCond .ne 14, 3) := by decide +kernel
theorem dX12_ahead_161 : decode cX12_ahead 161 = .ok (.aload_n 0, 1) := by decide +kernel
theorem dX12_ahead_162 : decode cX12_ahead 162 = .ok (.aload_n 0, 1) := by decide +kernel
theorem dX12_ahead_163 : decode cX12_ahead 163 = .ok (.getfield 7, 3) := by decide +kernel
theorem dX12_ahead_166 : decode cX12_ahead 166 = .ok (.iload_n 1, 1) := by decide +kernel
theorem dX12_ahead_167 : decode cX12_ahead 167 = .ok (.iaload, 1) := by decide +kernel
theorem dX12_ahead_168 : decode cX12_ahead 168 = .ok (.putfield 29, 3) := by decide +kernel
theorem dX12_ahead_171 : decode cX12_ahead 171 = .ok (.return_, 1) := by decide +kernel
theorem dX12_ahead_172 : decode cX12_ahead 172 = .ok (.aload_n 0, 1) := by decide +kernel
theorem dX12_ahead_173 : decode cX12_ahead 173 = .ok (.iload_n 2, 1) := by decide +kernel
theorem dX12_ahead_174 : decode cX12_ahead 174 = .ok (.ifCond .eq 7, 3) := by decide +kernel
theorem dX12_ahead_177 : decode cX12_ahead 177 = .ok (.iconst 1, 1) := by decide +kernel
theorem dX12_ahead_178 : decode cX12_ahead 178 = .ok (.goto 4, 3) := by decide +kernel
theorem dX12_ahead_181 : decode cX12_ahead 181 = .ok (.iconst 2, 1) := by decide +kernel
theorem dX12_ahead_182 : decode cX12_ahead 182 = .ok (.putfield 20, 3) := by decide +kernel
theorem dX12_ahead_185 : decode cX12_ahead 185 = .ok (.iload_n 2, 1) := by decide +kernel
theorem dX12_ahead_186 : decode cX12_ahead 186 = .ok (.ifCond .eq 8, 3) := by decide +kernel
theorem dX12_ahead_189 : decode cX12_ahead 189 = .ok (.bipush 6, 2) := by decide +kernel
theorem dX12_ahead_191 : decode cX12_ahead 191 = .ok (.goto 4, 3) := by decide +kernel
theorem dX12_ahead_194 : decode cX12_ahead 194 = .ok (.iconst 4, 1) := by decide +kernel
theorem dX12_ahead_195 : decode cX12_ahead 195 = .ok (.istore 4, 2) := by decide +kernel
theorem dX12_ahead_197 : decode cX12_ahead 197 = .ok (.iconst 0, 1) := by decide +kernel
theorem dX12_ahead_198 : decode cX12_ahead 198 = .ok (.istore 5, 2) := by decide +kernel
theorem dX12_ahead_200 : decode cX12_ahead 200 = .ok (.iload_n 1, 1) := by decide +kernel
theorem dX12_ahead_201 : decode cX12_ahead 201 = .ok (.aload_n 0, 1) := by decide +kernel
theorem dX12_ahead_202 : decode cX12_ahead 202 = .ok (.getfield 17, 3) := by decide +kernel
theorem dX12_ahead_205 : decode cX12_ahead 205 = .ok (.if_icmp .ge 118, 3) := by decide +kernel
theorem dX12_ahead_208 : decode cX12_ahead 208 = .ok (.iload_n 2, 1) := by decide +kernel
theorem dX12_ahead_209 : decode cX12_ahead 209 = .ok (.ifCond .eq 18, 3) := by decide +kernel
theorem dX12_ahead_212 : decode cX12_ahead 212 = .ok (.aload_n 0, 1) := by decide +kernel
theorem dX12_ahead_213 : decode cX12_ahead 213 = .ok (.getfield 7, 3) := by decide +kernel
theorem dX12_ahead_216 : decode cX12_ahead 216 = .ok (.iload_n 1, 1) := by decide +kernel
theorem dX12_ahead_217 : decode cX12_ahead 217 = .ok (.iaload, 1) := by decide +kernel
theorem dX12_ahead_218 : decode cX12_ahead 218 = .ok (.invokestatic 279, 3) := by decide +kernel
theorem dX12_ahead_221 : decode cX12_ahead 221 = .ok (.ifCond .eq 102, 3) := by decide +kernel
theorem dX12_ahead_224 : decode cX12_ahead 224 = .ok (.goto 15, 3) := by decide +kernel
theorem dX12_ahead_227 : decode cX12_ahead 227 = .ok (.aload_n 0, 1) := by decide +kernel
theorem dX12_ahead_228 : decode cX12_ahead 228 = .ok (.getfield 7, 3) := by decide +kernel
theorem dX12_ahead_231 : decode cX12_ahead 231 = .ok (.iload_n 1, 1) := by decide +kernel
theorem dX12_ahead_232 : decode cX12_ahead 232 = .ok (.iaload, 1) := by decide +kernel
theorem dX12_ahead_233 : decode cX12_ahead 233 = .ok (.invokestatic 283, 3) := by decide +kernel
theorem dX12_ahead_236 : decode cX12_ahead 236 = .ok (.ifCond .eq 87, 3) := by decide +kernel
theorem dX12_ahead_239 : decode cX12_ahead 239 = .ok (.iload 5, 2) := by decide +kernel
theorem dX12_ahead_241 : decode cX12_ahead 241 = .ok (.iload 4, 2) := by decide +kernel
theorem dX12_ahead_243 : decode cX12_ahead 243 = .ok (.if_icmp .ne 9, 3) := by decide +kernel
theorem dX12_ahead_246 : decode cX12_ahead 246 = .ok (.aload_n 0, 1) := by decide +kernel
theorem dX12_ahead_247 : decode cX12_ahead 247 = .ok (.iconst 1, 1) := by decide +kernel
theorem dX12_ahead_248 : decode cX12_ahead 248 = .ok (.iload_n 1, 1) := by decide +kernel
theorem dX12_ahead_249 : decode cX12_ahead 249 = .ok (.invokevirtual 286, 3) := by decide +kernel
theorem dX12_ahead_252 : decode cX12_ahead 252 = .ok (.iload 5, 2) := by decide +kernel
theorem dX12_ahead_254 : decode cX12_ahead 254 = .ok (.iload 4, 2) := by decide +kernel
theorem dX12_ahead_256 : decode cX12_ahead 256 = .ok (.if_icmp .ge 26, 3) := by decide +kernel
theorem dX12_ahead_259 : decode cX12_ahead 259 = .ok (.iload_n 2, 1) := by decide +kernel
theorem dX12_ahead_260 : decode cX12_ahead 260 = .ok (.ifCond .eq 22, 3) := by decide +kernel
theorem dX12_ahead_263 : decode cX12_ahead 263 = .ok (.aload_n 0, 1) := by decide +kernel
theorem dX12_ahead_264 : decode cX12_ahead 264 = .ok (.aload_n 0, 1) := by decide +kernel
theorem dX12_ahead_265 : decode cX12_ahead 265 = .ok (.getfield 32, 3) := by decide +kernel
theorem dX12_ahead_268 : decode cX12_ahead 268 = .ok (.bipush 8, 2) := by decide +kernel
theorem dX12_ahead_270 : decode cX12_ahead 270 = .ok (.lshl, 1) := by decide +kernel
theorem dX12_ahead_271 : decode cX12_ahead 271 = .ok (.aload_n 0, 1) := by decide +kernel
theorem dX12_ahead_272 : decode cX12_ahead 272 = .ok (.getfield 7, 3) := by decide +kernel
theorem dX12_ahead_275 : decode cX12_ahead 275 = .ok (.iload_n 1, 1) := by decide +kernel
theorem dX12_ahead_276 : decode cX12_ahead 276 = .ok (.iaload, 1) := by decide +kernel
theorem dX12_ahead_277 : decode cX12_ahead 277 = .ok (.i2l, 1) := by decide +kernel
theorem dX12_ahead_278 : decode cX12_ahead 278 = .ok (.lor, 1) := by decide +kernel
theorem dX12_ahead_279 : decode cX12_ahead 279 = .ok (.putfield 32, 3) := by decide +kernel
theorem dX12_ahead_282 : decode cX12_ahead 282 = .ok (.iload 5, 2) := by decide +kernel
theorem dX12_ahead_284 : decode cX12_ahead 284 = .ok (.iload 4, 2) := by decide +kernel
theorem dX12_ahead_286 : decode cX12_ahead 286 = .ok (.if_icmp .ge 28, 3) := by decide +kernel
theorem dX12_ahead_289 : decode cX12_ahead 289 = .ok (.iload_n 3, 1) := by decide +kernel
theorem dX12_ahead_290 : decode cX12_ahead 290 = .ok (.ifCond .eq 24, 3) := by decide +kernel
theorem dX12_ahead_293 : decode cX12_ahead 293 = .ok (.aload_n 0, 1) := by decide +kernel
theorem dX12_ahead_294 : decode cX12_ahead 294 = .ok (.bipush 10, 2) := by decide +kernel
theorem dX12_ahead_296 : decode cX12_ahead 296 = .ok (.aload_n 0, 1) := by decide +kernel
theorem dX12_ahead_297 : decode cX12_ahead 297 = .ok (.getfield 29, 3) := by decide +kernel
theorem dX12_ahead_300 : decode cX12_ahead 300 = .ok (.imul, 1) := by decide +kernel
theorem dX12_ahead_301 : decode cX12_ahead 301 = .ok (.aload_n 0, 1) := by decide +kernel
theorem dX12_ahead_302 : decode cX12_ahead 302 = .ok (.getfield 7, 3) := by decide +kernel
theorem dX12_ahead_305 : decode cX12_ahead 305 = .ok (.iload_n 1, 1) := by decide +kernel
theorem dX12_ahead_306 : decode cX12_ahead 306 = .ok (.iaload, 1) := by decide +kernel
theorem dX12_ahead_307 : decode cX12_ahead 307 = .ok (.iadd, 1) := by decide +kernel
theorem dX12_ahead_308 : decode cX12_ahead 308 = .ok (.bipush 48, 2) := by decide +kernel
theorem dX12_ahead_310 : decode cX12_ahead 310 = .ok (.isub, 1) := by decide +kernel
theorem dX12_ahead_311 : decode cX12_ahead 311 = .ok (.putfield 29, 3) := by decide +kernel
theorem dX12_ahead_314 : decode cX12_ahead 314 = .ok (.iinc 5 1, 3) := by decide +kernel
theorem dX12_ahead_317 : decode cX12_ahead 317 = .ok (.iinc 1 1, 3) := by decide +kernel
theorem dX12_ahead_320 : decode cX12_ahead 320 = .ok (.goto (-120), 3) := by decide +kernel
theorem dX12_ahead_323 : decode cX12_ahead 323 = .ok (.aload_n 0, 1) := by decide +kernel
theorem dX12_ahead_324 : decode cX12_ahead 324 = .ok (.iload_n 1, 1) := by decide +kernel
theorem dX12_ahead_325 : decode cX12_ahead 325 = .ok (.putfield 26, 3) := by decide +kernel
theorem dX12_ahead_328 : decode cX12_ahead 328 = .ok (.return_, 1) := by decide +kernel
theorem dX12_must_0 : decode cX12_must 0 = .ok (.aload_n 0, 1) := by decide +kernel
theorem dX12_must_1 : decode cX12_must 1 = .ok (.iload_n 1, 1) := by decide +kernel
theorem dX12_must_2 : decode cX12_must 2 = .ok (.invokevirtual 290, 3) := by decide +kernel
theorem dX12_must_5 : decode cX12_must 5 = .ok (.ifCond .ne 12, 3) := by decide +kernel
theorem dX12_must_8 : decode cX12_must 8 = .ok (.aload_n 0, 1) := by decide +kernel
theorem dX12_must_9 : decode cX12_must 9 = .ok (.iconst 1, 1) := by decide +kernel
theorem dX12_must_10 : decode cX12_must 10 = .ok (.aload_n 0, 1) := by decide +kernel
theorem dX12_must_11 : decode cX12_must 11 = .ok (.getfield 23, 3) := by decide +kernel
theorem dX12_must_14 : decode cX12_must 14 = .ok (.invokevirtual 286, 3) := by decide +kernel
theorem dX12_must_17 : decode cX12_must 17 = .ok (.aload_n 0, 1) := by decide +kernel
theorem dX12_must_18 : decode cX12_must 18 = .ok (.getfield 36, 3) := by decide +kernel
theorem dX12_must_21 : decode cX12_must 21 = .ok (.ifCond .ne 7, 3) := by decide +kernel
theorem dX12_must_24 : decode cX12_must 24 = .ok (.aload_n 0, 1) := by decide +kernel
theorem dX12_must_25 : decode cX12_must 25 = .ok (.invokevirtual 293, 3) := by decide +kernel
theorem dX12_must_28 : decode cX12_must 28 = .ok (.return_, 1) := by decide +kernel
theorem dX12_named_0 : decode cX12_named 0 = .ok (.iload_n 1, 1) := by decide +kernel
theorem dX12_named_1 : decode cX12_named 1 = .ok (.ifCond .ne 15, 3) := by decide +kernel
theorem dX12_named_4 : decode cX12_named 4 = .ok (.aload_n 0, 1) := by decide +kernel
theorem dX12_named_5 : decode cX12_named 5 = .ok (.getfield 51, 3) := by decide +kernel
theorem dX12_named_8 : decode cX12_named 8 = .ok (.aload_n 0, 1) := by decide +kernel
theorem dX12_named_9 : decode cX12_named 9 = .ok (.getfield 155, 3) := by decide +kernel
theorem dX12_named_12 : decode cX12_named 12 = .ok (.iaload, 1) := by decide +kernel
theorem dX12_named_13 : decode cX12_named 13 = .ok (.goto 63, 3) := by decide +kernel
theorem dX12_named_16 : decode cX12_named 16 = .ok (.iload_n 1, 1) := by decide +kernel
theorem dX12_named_17 : decode cX12_named 17 = .ok (.iconst 1, 1) := by decide +kernel
theorem dX12_named_18 : decode cX12_named 18 = .ok (.if_icmp .ne 15, 3) := by decide +kernel
theorem dX12_named_21 : decode cX12_named 21 = .ok (.aload_n 0, 1) := by decide +kernel
theorem dX12_named_22 : decode cX12_named 22 = .ok (.getfield 58, 3) := by decide +kernel
theorem dX12_named_25 : decode cX12_named 25 = .ok (.aload_n 0, 1) := by decide +kernel
theorem dX12_named_26 : decode cX12_named 26 = .ok (.getfield 155, 3) := by decide +kernel
theorem dX12_named_29 : decode cX12_named 29 = .ok (.iaload, 1) := by decide +kernel
theorem dX12_named_30 : decode cX12_named 30 = .ok (.goto 46, 3) := by decide +kernel
theorem dX12_named_33 : decode cX12_named 33 = .ok (.iload_n 1, 1) := by decide +kernel
theorem dX12_named_34 : decode cX12_named 34 = .ok (.iconst 2, 1) := by decide +kernel
theorem dX12_named_35 : decode cX12_named 35 = .ok (.if_icmp .ne 15, 3) := by decide +kernel
theorem dX12_named_38 : decode cX12_named 38 = .ok (.aload_n 0, 1) := by decide +kernel
theorem dX12_named_39 : decode cX12_named 39 = .ok (.getfield 80, 3) := by decide +kernel
theorem dX12_named_42 : decode cX12_named 42 = .ok (.aload_n 0, 1) := by decide +kernel
theorem dX12_named_43 : decode cX12_named 43 = .ok (.getfield 155, 3) := by decide +kernel
theorem dX12_named_46 : decode cX12_named 46 = .ok (.iaload, 1) := by decide +kernel
theorem dX12_named_47 : decode cX12_named 47 = .ok (.goto 29, 3) := by decide +kernel
theorem dX12_named_50 : decode cX12_named 50 = .ok (.iload_n 1, 1) := by decide +kernel
theorem dX12_named_51 : decode cX12_named 51 = .ok (.iconst 3, 1) := by decide +kernel
theorem dX12_named_52 : decode cX12_named 52 = .ok (.if_icmp .ne 15, 3) := by decide +kernel
theorem dX12_named_55 : decode cX12_named 55 = .ok (.aload_n 0, 1) := by decide +kernel
theorem dX12_named_56 : decode cX12_named 56 = .ok (.getfield 95, 3) := by decide +kernel
theorem dX12_named_59 : decode cX12_named 59 = .ok (.aload_n 0, 1) := by decide +kernel
theorem dX12_named_60 : decode cX12_named 60 = .ok (.getfield 155, 3) := by decide +kernel
theorem dX12_named_63 : decode cX12_named 63 = .ok (.iaload, 1) := by decide +kernel
theorem dX12_named_64 : decode cX12_named 64 = .ok (.goto 12, 3) := by decide +kernel
theorem dX12_named_67 : decode cX12_named 67 = .ok (.aload_n 0, 1) := by decide +kernel
theorem dX12_named_68 : decode cX12_named 68 = .ok (.getfield 104, 3) := by decide +kernel
theorem dX12_named_71 : decode cX12_named 71 = .ok (.aload_n 0, 1) := by decide +kernel
theorem dX12_named_72 : decode cX12_named 72 = .ok (.getfield 155, 3) := by decide +kernel
theorem dX12_named_75 : decode cX12_named 75 = .ok (.iaload, 1) := by decide +kernel
theorem dX12_named_76 : decode cX12_named 76 = .ok (.istore 4, 2) := by decide +kernel
theorem dX12_named_78 : decode cX12_named 78 = .ok (.iconst 0, 1) := by decide +kernel
theorem dX12_named_79 : decode cX12_named 79 = .ok (.istore 5, 2) := by decide +kernel
theorem dX12_named_81 : decode cX12_named 81 = .ok (.iload 5, 2) := by decide +kernel
theorem dX12_named_83 : decode cX12_named 83 = .ok (.iload 4, 2) := by decide +kernel
theorem dX12_named_85 : decode cX12_named 85 = .ok (.if_icmp .ge 28, 3) := by decide +kernel
theorem dX12_named_88 : decode cX12_named 88 = .ok (.aload_n 0, 1) := by decide +kernel
theorem dX12_named_89 : decode cX12_named 89 = .ok (.aload_n 0, 1) := by decide +kernel
theorem dX12_named_90 : decode cX12_named 90 = .ok (.getfield 155, 3) := by decide +kernel
theorem dX12_named_93 : decode cX12_named 93 = .ok (.iload_n 1, 1) := by decide +kernel
theorem dX12_named_94 : decode cX12_named 94 = .ok (.iload 5, 2) := by decide +kernel
theorem dX12_named_96 : decode cX12_named 96 = .ok (.invokevirtual 348, 3) := by decide +kernel
theorem dX12_named_99 : decode cX12_named 99 = .ok (.lload_n 2, 1) := by decide +kernel
theorem dX12_named_100 : decode cX12_named 100 = .ok (.lcmp, 1) := by decide +kernel
theorem dX12_named_101 : decode cX12_named 101 = .ok (.ifCond .ne 6, 3) := by decide +kernel
theorem dX12_named_104 : decode cX12_named 104 = .ok (.iload 5, 2) := by decide +kernel
theorem dX12_named_106 : decode cX12_named 106 = .ok (.ireturn, 1) := by decide +kernel
theorem dX12_named_107 : decode cX12_named 107 = .ok (.iinc 5 1, 3) := by decide +kernel
theorem dX12_named_110 : decode cX12_named 110 = .ok (.goto (-29), 3) := by decide +kernel
theorem dX12_named_113 : decode cX12_named 113 = .ok (.iconst (-1), 1) := by decide +kernel
theorem dX12_named_114 : decode cX12_named 114 = .ok (.ireturn, 1) := by decide +kernel
theorem dX12_nameOf_0 : decode cX12_nameOf 0 = .ok (.iload_n 2, 1) := by decide +kernel
theorem dX12_nameOf_1 : decode cX12_nameOf 1 = .ok (.tableswitch 77 0 3 #[31, 43, 55, 66], 31) := by decide +kernel
theorem dX12_nameOf_32 : decode cX12_nameOf 32 = .ok (.aload_n 0, 1) := by decide +kernel
theorem dX12_nameOf_33 : decode cX12_nameOf 33 = .ok (.getfield 54, 3) := by decide +kernel
theorem dX12_nameOf_36 : decode cX12_nameOf 36 = .ok (.bipush 8, 2) := by decide +kernel
theorem dX12_nameOf_38 : decode cX12_nameOf 38 = .ok (.iload_n 1, 1) := by decide +kernel
theorem dX12_nameOf_39 : decode cX12_nameOf 39 = .ok (.imul, 1) := by decide +kernel
theorem dX12_nameOf_40 : decode cX12_nameOf 40 = .ok (.iload_n 3, 1) := by decide +kernel
theorem dX12_nameOf_41 : decode cX12_nameOf 41 = .ok (.iadd, 1) := by decide +kernel
theorem dX12_nameOf_42 : decode cX12_nameOf 42 = .ok (.laload, 1) := by decide +kernel
theorem dX12_nameOf_43 : decode cX12_nameOf 43 = .ok (.lreturn, 1) := by decide +kernel
theorem dX12_nameOf_44 : decode cX12_nameOf 44 = .ok (.aload_n 0, 1) := by decide +kernel
theorem dX12_nameOf_45 : decode cX12_nameOf 45 = .ok (.getfield 61, 3) := by decide +kernel
theorem dX12_nameOf_48 : decode cX12_nameOf 48 = .ok (.bipush 10, 2) := by decide +kernel
theorem dX12_nameOf_50 : decode cX12_nameOf 50 = .ok (.iload_n 1, 1) := by decide +kernel
theorem dX12_nameOf_51 : decode cX12_nameOf 51 = .ok (.imul, 1) := by decide +kernel
theorem dX12_nameOf_52 : decode cX12_nameOf 52 = .ok (.iload_n 3, 1) := by decide +kernel
theorem dX12_nameOf_53 : decode cX12_nameOf 53 = .ok (.iadd, 1) := by decide +kernel
theorem dX12_nameOf_54 : decode cX12_nameOf 54 = .ok (.laload, 1) := by decide +kernel
theorem dX12_nameOf_55 : decode cX12_nameOf 55 = .ok (.lreturn, 1) := by decide +kernel
theorem dX12_nameOf_56 : decode cX12_nameOf 56 = .ok (.aload_n 0, 1) := by decide +kernel
theorem dX12_nameOf_57 : decode cX12_nameOf 57 = .ok (.getfield 83, 3) := by decide +kernel
theorem dX12_nameOf_60 : decode cX12_nameOf 60 = .ok (.iconst 4, 1) := by decide +kernel
theorem dX12_nameOf_61 : decode cX12_nameOf 61 = .ok (.iload_n 1, 1) := by decide +kernel
theorem dX12_nameOf_62 : decode cX12_nameOf 62 = .ok (.imul, 1) := by decide +kernel
theorem dX12_nameOf_63 : decode cX12_nameOf 63 = .ok (.iload_n 3, 1) := by decide +kernel
theorem dX12_nameOf_64 : decode cX12_nameOf 64 = .ok (.iadd, 1) := by decide +kernel
theorem dX12_nameOf_65 : decode cX12_nameOf 65 = .ok (.laload, 1) := by decide +kernel
theorem dX12_nameOf_66 : decode cX12_nameOf 66 = .ok (.lreturn, 1) := by decide +kernel
theorem dX12_nameOf_67 : decode cX12_nameOf 67 = .ok (.aload_n 0, 1) := by decide +kernel
theorem dX12_nameOf_68 : decode cX12_nameOf 68 = .ok (.getfield 98, 3) := by decide +kernel
theorem dX12_nameOf_71 : decode cX12_nameOf 71 = .ok (.iconst 3, 1) := by decide +kernel
theorem dX12_nameOf_72 : decode cX12_nameOf 72 = .ok (.iload_n 1, 1) := by decide +kernel
theorem dX12_nameOf_73 : decode cX12_nameOf 73 = .ok (.imul, 1) := by decide +kernel
theorem dX12_nameOf_74 : decode cX12_nameOf 74 = .ok (.iload_n 3, 1) := by decide +kernel
theorem dX12_nameOf_75 : decode cX12_nameOf 75 = .ok (.iadd, 1) := by decide +kernel
theorem dX12_nameOf_76 : decode cX12_nameOf 76 = .ok (.laload, 1) := by decide +kernel
theorem dX12_nameOf_77 : decode cX12_nameOf 77 = .ok (.lreturn, 1) := by decide +kernel
theorem dX12_nameOf_78 : decode cX12_nameOf 78 = .ok (.aload_n 0, 1) := by decide +kernel
theorem dX12_nameOf_79 : decode cX12_nameOf 79 = .ok (.getfield 107, 3) := by decide +kernel
theorem dX12_nameOf_82 : decode cX12_nameOf 82 = .ok (.iconst 4, 1) := by decide +kernel
theorem dX12_nameOf_83 : decode cX12_nameOf 83 = .ok (.iload_n 1, 1) := by decide +kernel
theorem dX12_nameOf_84 : decode cX12_nameOf 84 = .ok (.imul, 1) := by decide +kernel
theorem dX12_nameOf_85 : decode cX12_nameOf 85 = .ok (.iload_n 3, 1) := by decide +kernel
theorem dX12_nameOf_86 : decode cX12_nameOf 86 = .ok (.iadd, 1) := by decide +kernel
theorem dX12_nameOf_87 : decode cX12_nameOf 87 = .ok (.laload, 1) := by decide +kernel
theorem dX12_nameOf_88 : decode cX12_nameOf 88 = .ok (.lreturn, 1) := by decide +kernel
theorem dX12_number_0 : decode cX12_number 0 = .ok (.aload_n 0, 1) := by decide +kernel
theorem dX12_number_1 : decode cX12_number 1 = .ok (.getfield 36, 3) := by decide +kernel
theorem dX12_number_4 : decode cX12_number 4 = .ok (.ifCond .le 5, 3) := by decide +kernel
theorem dX12_number_7 : decode cX12_number 7 = .ok (.iconst 0, 1) := by decide +kernel
theorem dX12_number_8 : decode cX12_number 8 = .ok (.ireturn, 1) := by decide +kernel
theorem dX12_number_9 : decode cX12_number 9 = .ok (.aload_n 0, 1) := by decide +kernel
theorem dX12_number_10 : decode cX12_number 10 = .ok (.getfield 20, 3) := by decide +kernel
theorem dX12_number_13 : decode cX12_number 13 = .ok (.iconst 2, 1) := by decide +kernel
theorem dX12_number_14 : decode cX12_number 14 = .ok (.if_icmp .eq 12, 3) := by decide +kernel
theorem dX12_number_17 : decode cX12_number 17 = .ok (.aload_n 0, 1) := by decide +kernel
theorem dX12_number_18 : decode cX12_number 18 = .ok (.iconst 1, 1) := by decide +kernel
theorem dX12_number_19 : decode cX12_number 19 = .ok (.aload_n 0, 1) := by decide +kernel
theorem dX12_number_20 : decode cX12_number 20 = .ok (.getfield 23, 3) := by decide +kernel
theorem dX12_number_23 : decode cX12_number 23 = .ok (.invokevirtual 286, 3) := by decide +kernel
theorem dX12_number_26 : decode cX12_number 26 = .ok (.aload_n 0, 1) := by decide +kernel
theorem dX12_number_27 : decode cX12_number 27 = .ok (.getfield 36, 3) := by decide +kernel
theorem dX12_number_30 : decode cX12_number 30 = .ok (.ifCond .ne 24, 3) := by decide +kernel
theorem dX12_number_33 : decode cX12_number 33 = .ok (.aload_n 0, 1) := by decide +kernel
theorem dX12_number_34 : decode cX12_number 34 = .ok (.getfield 29, 3) := by decide +kernel
theorem dX12_number_37 : decode cX12_number 37 = .ok (.iload_n 1, 1) := by decide +kernel
theorem dX12_number_38 : decode cX12_number 38 = .ok (.iload_n 2, 1) := by decide +kernel
theorem dX12_number_39 : decode cX12_number 39 = .ok (.invokestatic 352, 3) := by decide +kernel
theorem dX12_number_42 : decode cX12_number 42 = .ok (.ifCond .ne 12, 3) := by decide +kernel
theorem dX12_number_45 : decode cX12_number 45 = .ok (.aload_n 0, 1) := by decide +kernel
theorem dX12_number_46 : decode cX12_number 46 = .ok (.iconst 4, 1) := by decide +kernel
theorem dX12_number_47 : decode cX12_number 47 = .ok (.aload_n 0, 1) := by decide +kernel
theorem dX12_number_48 : decode cX12_number 48 = .ok (.getfield 23, 3) := by decide +kernel
theorem dX12_number_51 : decode cX12_number 51 = .ok (.invokevirtual 286, 3) := by decide +kernel
theorem dX12_number_54 : decode cX12_number 54 = .ok (.aload_n 0, 1) := by decide +kernel
theorem dX12_number_55 : decode cX12_number 55 = .ok (.getfield 29, 3) := by decide +kernel
theorem dX12_number_58 : decode cX12_number 58 = .ok (.istore_n 3, 1) := by decide +kernel
theorem dX12_number_59 : decode cX12_number 59 = .ok (.aload_n 0, 1) := by decide +kernel
theorem dX12_number_60 : decode cX12_number 60 = .ok (.getfield 36, 3) := by decide +kernel
theorem dX12_number_63 : decode cX12_number 63 = .ok (.ifCond .ne 7, 3) := by decide +kernel
theorem dX12_number_66 : decode cX12_number 66 = .ok (.aload_n 0, 1) := by decide +kernel
theorem dX12_number_67 : decode cX12_number 67 = .ok (.invokevirtual 293, 3) := by decide +kernel
theorem dX12_number_70 : decode cX12_number 70 = .ok (.iload_n 3, 1) := by decide +kernel
theorem dX12_number_71 : decode cX12_number 71 = .ok (.ireturn, 1) := by decide +kernel
theorem dX12_must__0 : decode cX12_must_ 0 = .ok (.aload_n 0, 1) := by decide +kernel
theorem dX12_must__1 : decode cX12_must_ 1 = .ok (.getfield 36, 3) := by decide +kernel
theorem dX12_must__4 : decode cX12_must_ 4 = .ok (.ifCond .le 4, 3) := by decide +kernel
theorem dX12_must__7 : decode cX12_must_ 7 = .ok (.return_, 1) := by decide +kernel
theorem dX12_must__8 : decode cX12_must_ 8 = .ok (.aload_n 0, 1) := by decide +kernel
theorem dX12_must__9 : decode cX12_must_ 9 = .ok (.lload_n 1, 1) := by decide +kernel
theorem dX12_must__10 : decode cX12_must_ 10 = .ok (.invokevirtual 368, 3) := by decide +kernel
theorem dX12_must__13 : decode cX12_must_ 13 = .ok (.ifCond .ne 12, 3) := by decide +kernel
theorem dX12_must__16 : decode cX12_must_ 16 = .ok (.aload_n 0, 1) := by decide +kernel
theorem dX12_must__17 : decode cX12_must_ 17 = .ok (.iconst 1, 1) := by decide +kernel
theorem dX12_must__18 : decode cX12_must_ 18 = .ok (.aload_n 0, 1) := by decide +kernel
theorem dX12_must__19 : decode cX12_must_ 19 = .ok (.getfield 23, 3) := by decide +kernel
theorem dX12_must__22 : decode cX12_must_ 22 = .ok (.invokevirtual 286, 3) := by decide +kernel
theorem dX12_must__25 : decode cX12_must_ 25 = .ok (.aload_n 0, 1) := by decide +kernel
theorem dX12_must__26 : decode cX12_must_ 26 = .ok (.getfield 36, 3) := by decide +kernel
theorem dX12_must__29 : decode cX12_must_ 29 = .ok (.ifCond .ne 7, 3) := by decide +kernel
theorem dX12_must__32 : decode cX12_must_ 32 = .ok (.aload_n 0, 1) := by decide +kernel
theorem dX12_must__33 : decode cX12_must_ 33 = .ok (.invokevirtual 293, 3) := by decide +kernel
theorem dX12_must__36 : decode cX12_must_ 36 = .ok (.return_, 1) := by decide +kernel
abbrev tr_r_X12_nameOf (x1 : Int) (x2 : Int) (x3 : Int) (A : St) (z : Int) : Prop := (((x2 < 0 ∨ 3 < x2) ∧ (∃ z2 : Int, z2 = A 20 (4 * x1 + x3).toNat ∧ (z = z2))) ∨ (x2 = 0 ∧ (∃ z3 : Int, z3 = A 3 (8 * x1 + x3).toNat ∧ (z = z3))) ∨ (x2 = 1 ∧ (∃ z4 : Int, z4 = A 5 (10 * x1 + x3).toNat ∧ (z = z4))) ∨ (x2 = 2 ∧ (∃ z5 : Int, z5 = A 12 (4 * x1 + x3).toNat ∧ (z = z5))) ∨ (x2 = 3 ∧ (∃ z6 : Int, z6 = A 17 (3 * x1 + x3).toNat ∧ (z = z6))))
def r_X12_nameOf (x1 : Int) (x2 : Int) (x3 : Int) (A : St) (z : Int) : Prop := tr_r_X12_nameOf x1 x2 x3 A z
theorem u_r_X12_nameOf {x1 : Int} {x2 : Int} {x3 : Int} {A : St} {z : Int} (h : tr_r_X12_nameOf x1 x2 x3 A z) : r_X12_nameOf x1 x2 x3 A z := h
def q_X12_nameOf (x1 : Int) (x2 : Int) (x3 : Int) (A : St) (z : Int) : Prop := r_X12_nameOf x1 x2 x3 A z ∧ (-9223372036854775808 ≤ z ∧ z ≤ 9223372036854775807)
def ws_mc_X12_nameOf : List Cond := .code yX12_nameOf cX12_nameOf 4 (some .long) :: WX
set_option maxHeartbeats 4000000 in
set_option maxRecDepth 100000 in
theorem mc_X12_nameOf (l : Launch) (dC : Nat → ClassId) (dI : Nat → Nat → Nat) (cB cI cJ cZ cQ : ClassId) (q : Nat → Nat) (A : St) (x1 x2 x3 : Int) (hI : IM A) (hx1 : (0 : Int) ≤ x1 ∧ x1 ≤ 1) (hx2 : (0 : Int) ≤ x2 ∧ x2 ≤ 4) (hx3 : (0 : Int) ≤ x3 ∧ x3 ≤ 9) (hp0 : (x2 = 0 → x3 < 8) ∧ (x2 = 1 → x3 < 10) ∧ (x2 = 2 → x3 < 4) ∧ (x2 = 3 → x3 < 3) ∧ (x2 = 4 → x3 < 4)) : XMl l yX12_nameOf ws_mc_X12_nameOf ({ frames := 0, cells := 0, slots := 0, locals := 0 } : Room) (dC, dI) (tyA cB cI cJ cZ cQ) (WM cI cJ cZ q) A [.ref (q 0), .int (iI x1), .int (iI x2), .int (iI x3)] (fun z u => A = u ∧ r_X12_nameOf x1 x2 x3 A z ∧ (-9223372036854775808 ≤ z ∧ z ≤ 9223372036854775807)) := by
  refine x_metl (cc := cX12_nameOf) (maxL := 4) WM_adr (by decide +kernel) rfl (Nat.le_of_ble_eq_true rfl) (fun p e s m below meth c Q AS ls hx hb hml hown hts hK hDD hA0 hP hS hl RET => ?_)
  have hown : s.vm.findClass RX12 = some m.cls := hown
  have hl : lv_has ls 4 [(0, .ref (q 0)), (1, .int (iI x1)), (2, .int (iI x2)), (3, .int (iI x3))] := hl
  have hiX12 : ∀ w ∈ u_ws RX12 TX12 85, w ∈ ws_mc_X12_nameOf := fun w h => List.mem_cons_of_mem _ (wx_lay w h)
  obtain ⟨H, hHe⟩ : ∃ H : Heap, H = s.heap := ⟨_, rfl⟩
  rw [← hHe] at hP
  have hS : va_S AS s.heap H [] := by rw [hHe]; exact hS
  suffices hgo : ∀ locs : List Loc, va_S AS s.heap H locs → W p l e (headSpec ws_mc_X12_nameOf ({ frames := 0, cells := 0, slots := 0, locals := 0 } : Room)).room s m [.ref (q 0), .int (iI x1), .int (iI x2), .int (iI x3)].toArray below meth c H locs 0 0 Q (F0 m 0 ls []) by
    have := hgo [] hS
    rw [hHe] at this
    exact this
  clear hS hHe
  intro locs hS
  refine lv_iload_n hx hb dX12_nameOf_0 rfl (lv_at hl 2 rfl) ?_
  rcases (show (x2 < 0 ∨ 3 < x2) ∨ x2 = 0 ∨ x2 = 1 ∨ x2 = 2 ∨ x2 = 3 by omega) with c1 | c1 | c1 | c1 | c1
  · refine lv_tableOut (tgt := 78) hx hb dX12_nameOf_1 (by rw [iI_toInt (rb hx2 (by decide) (by decide))]; exact c1) (by decide) ?_
    refine lv_aload_n hx hb dX12_nameOf_78 rfl (lv_at hl 0 rfl) ?_
    refine va_get (D := (dC, dI)) (ci := 12) (v := .ref (q 20)) (C := RX12) (T := TX12) (N := 85) hx hb hts hiX12 hown hK hP 0 wm0 rfl 31 (by decide) (hts _ (List.mem_cons_of_mem _ (wl_in_1 _ (List.mem_of_getElem? (i := 25) rfl)))) (fun _ h9 => h9) rfl dX12_nameOf_79 ?_
    refine lv_iconst (v := iI 4) hx hb dX12_nameOf_82 (by decide +kernel) ?_
    refine lv_iload_n hx hb dX12_nameOf_83 rfl (lv_at hl 1 rfl) ?_
    refine x_mulv (v := 4 * x1) hx hb dX12_nameOf_84 (by omega) ?_
    refine lv_iload_n hx hb dX12_nameOf_85 rfl (lv_at hl 3 rfl) ?_
    refine x_addv (v := 4 * x1 + x3) hx hb dX12_nameOf_86 (by omega) ?_
    refine x_lald hx hb hK hP 20 2 wm20 rfl (by omega) (by decide) dX12_nameOf_87 (fun z2 hz2 => ?_)
    have rz2 : (-9223372036854775808 : Int) ≤ z2 ∧ z2 ≤ 9223372036854775807 := by rw [hz2]; exact hI 20 _
    have gz2 := Hd.mk hz2
    have hz2 : z2 = A 20 (4 * x1 + x3).toNat := hz2
    exact RET z2 _ _ _ _ _ ⟨rfl, (u_r_X12_nameOf (Or.inl ⟨c1, ⟨z2, gz2.out, rfl⟩⟩)), by omega⟩ hP hS dX12_nameOf_88
  · refine tp_i (y := iI 0) (congrArg iI c1) ?_
    refine lv_tableIn (off := 31) (tgt := 32) hx hb dX12_nameOf_1 (by decide +kernel) (by decide +kernel) (by decide +kernel) (by decide) ?_
    refine lv_aload_n hx hb dX12_nameOf_32 rfl (lv_at hl 0 rfl) ?_
    refine va_get (D := (dC, dI)) (ci := 12) (v := .ref (q 3)) (C := RX12) (T := TX12) (N := 85) hx hb hts hiX12 hown hK hP 0 wm0 rfl 14 (by decide) (hts _ (List.mem_cons_of_mem _ (wl_in_1 _ (List.mem_of_getElem? (i := 21) rfl)))) (fun _ h9 => h9) rfl dX12_nameOf_33 ?_
    refine lv_bipush (v := iI 8) hx hb dX12_nameOf_36 (by decide +kernel) ?_
    refine lv_iload_n hx hb dX12_nameOf_38 rfl (lv_at hl 1 rfl) ?_
    refine x_mulv (v := 8 * x1) hx hb dX12_nameOf_39 (by omega) ?_
    refine lv_iload_n hx hb dX12_nameOf_40 rfl (lv_at hl 3 rfl) ?_
    refine x_addv (v := 8 * x1 + x3) hx hb dX12_nameOf_41 (by omega) ?_
    refine x_lald hx hb hK hP 3 2 wm3 rfl (by omega) (by decide) dX12_nameOf_42 (fun z3 hz3 => ?_)
    have rz3 : (-9223372036854775808 : Int) ≤ z3 ∧ z3 ≤ 9223372036854775807 := by rw [hz3]; exact hI 3 _
    have gz3 := Hd.mk hz3
    have hz3 : z3 = A 3 (8 * x1 + x3).toNat := hz3
    exact RET z3 _ _ _ _ _ ⟨rfl, (u_r_X12_nameOf (Or.inr (Or.inl ⟨c1, ⟨z3, gz3.out, rfl⟩⟩))), by omega⟩ hP hS dX12_nameOf_43
  · refine tp_i (y := iI 1) (congrArg iI c1) ?_
    refine lv_tableIn (off := 43) (tgt := 44) hx hb dX12_nameOf_1 (by decide +kernel) (by decide +kernel) (by decide +kernel) (by decide) ?_
    refine lv_aload_n hx hb dX12_nameOf_44 rfl (lv_at hl 0 rfl) ?_
    refine va_get (D := (dC, dI)) (ci := 12) (v := .ref (q 5)) (C := RX12) (T := TX12) (N := 85) hx hb hts hiX12 hown hK hP 0 wm0 rfl 16 (by decide) (hts _ (List.mem_cons_of_mem _ (wl_in_1 _ (List.mem_of_getElem? (i := 22) rfl)))) (fun _ h9 => h9) rfl dX12_nameOf_45 ?_
    refine lv_bipush (v := iI 10) hx hb dX12_nameOf_48 (by decide +kernel) ?_
    refine lv_iload_n hx hb dX12_nameOf_50 rfl (lv_at hl 1 rfl) ?_
    refine x_mulv (v := 10 * x1) hx hb dX12_nameOf_51 (by omega) ?_
    refine lv_iload_n hx hb dX12_nameOf_52 rfl (lv_at hl 3 rfl) ?_
    refine x_addv (v := 10 * x1 + x3) hx hb dX12_nameOf_53 (by omega) ?_
    refine x_lald hx hb hK hP 5 2 wm5 rfl (by omega) (by decide) dX12_nameOf_54 (fun z4 hz4 => ?_)
    have rz4 : (-9223372036854775808 : Int) ≤ z4 ∧ z4 ≤ 9223372036854775807 := by rw [hz4]; exact hI 5 _
    have gz4 := Hd.mk hz4
    have hz4 : z4 = A 5 (10 * x1 + x3).toNat := hz4
    exact RET z4 _ _ _ _ _ ⟨rfl, (u_r_X12_nameOf (Or.inr (Or.inr (Or.inl ⟨c1, ⟨z4, gz4.out, rfl⟩⟩)))), by omega⟩ hP hS dX12_nameOf_55
  · refine tp_i (y := iI 2) (congrArg iI c1) ?_
    refine lv_tableIn (off := 55) (tgt := 56) hx hb dX12_nameOf_1 (by decide +kernel) (by decide +kernel) (by decide +kernel) (by decide) ?_
    refine lv_aload_n hx hb dX12_nameOf_56 rfl (lv_at hl 0 rfl) ?_
    refine va_get (D := (dC, dI)) (ci := 12) (v := .ref (q 12)) (C := RX12) (T := TX12) (N := 85) hx hb hts hiX12 hown hK hP 0 wm0 rfl 23 (by decide) (hts _ (List.mem_cons_of_mem _ (wl_in_1 _ (List.mem_of_getElem? (i := 23) rfl)))) (fun _ h9 => h9) rfl dX12_nameOf_57 ?_
    refine lv_iconst (v := iI 4) hx hb dX12_nameOf_60 (by decide +kernel) ?_
    refine lv_iload_n hx hb dX12_nameOf_61 rfl (lv_at hl 1 rfl) ?_
    refine x_mulv (v := 4 * x1) hx hb dX12_nameOf_62 (by omega) ?_
    refine lv_iload_n hx hb dX12_nameOf_63 rfl (lv_at hl 3 rfl) ?_
    refine x_addv (v := 4 * x1 + x3) hx hb dX12_nameOf_64 (by omega) ?_
    refine x_lald hx hb hK hP 12 2 wm12 rfl (by omega) (by decide) dX12_nameOf_65 (fun z5 hz5 => ?_)
    have rz5 : (-9223372036854775808 : Int) ≤ z5 ∧ z5 ≤ 9223372036854775807 := by rw [hz5]; exact hI 12 _
    have gz5 := Hd.mk hz5
    have hz5 : z5 = A 12 (4 * x1 + x3).toNat := hz5
    exact RET z5 _ _ _ _ _ ⟨rfl, (u_r_X12_nameOf (Or.inr (Or.inr (Or.inr (Or.inl ⟨c1, ⟨z5, gz5.out, rfl⟩⟩))))), by omega⟩ hP hS dX12_nameOf_66
  · refine tp_i (y := iI 3) (congrArg iI c1) ?_
    refine lv_tableIn (off := 66) (tgt := 67) hx hb dX12_nameOf_1 (by decide +kernel) (by decide +kernel) (by decide +kernel) (by decide) ?_
    refine lv_aload_n hx hb dX12_nameOf_67 rfl (lv_at hl 0 rfl) ?_
    refine va_get (D := (dC, dI)) (ci := 12) (v := .ref (q 17)) (C := RX12) (T := TX12) (N := 85) hx hb hts hiX12 hown hK hP 0 wm0 rfl 28 (by decide) (hts _ (List.mem_cons_of_mem _ (wl_in_1 _ (List.mem_of_getElem? (i := 24) rfl)))) (fun _ h9 => h9) rfl dX12_nameOf_68 ?_
    refine lv_iconst (v := iI 3) hx hb dX12_nameOf_71 (by decide +kernel) ?_
    refine lv_iload_n hx hb dX12_nameOf_72 rfl (lv_at hl 1 rfl) ?_
    refine x_mulv (v := 3 * x1) hx hb dX12_nameOf_73 (by omega) ?_
    refine lv_iload_n hx hb dX12_nameOf_74 rfl (lv_at hl 3 rfl) ?_
    refine x_addv (v := 3 * x1 + x3) hx hb dX12_nameOf_75 (by omega) ?_
    refine x_lald hx hb hK hP 17 2 wm17 rfl (by omega) (by decide) dX12_nameOf_76 (fun z6 hz6 => ?_)
    have rz6 : (-9223372036854775808 : Int) ≤ z6 ∧ z6 ≤ 9223372036854775807 := by rw [hz6]; exact hI 17 _
    have gz6 := Hd.mk hz6
    have hz6 : z6 = A 17 (3 * x1 + x3).toNat := hz6
    exact RET z6 _ _ _ _ _ ⟨rfl, (u_r_X12_nameOf (Or.inr (Or.inr (Or.inr (Or.inr ⟨c1, ⟨z6, gz6.out, rfl⟩⟩))))), by omega⟩ hP hS dX12_nameOf_77

abbrev tr_d_X12_named_1 (x2 : Int) (z2 : Int) (A : St) (z : Int) (K1 : Int → Prop) (z3 : Int) : Prop := ((0 ≤ z3 ∧ z3 ≤ 2147483647) ∧ (((z2 ≤ z3) ∧ (z = (-1))) ∨ ((¬ z2 ≤ z3) ∧ (∃ z11 : Int, q_X12_nameOf (A 0 47) 0 z3 A z11 ∧ (∃ z14 : Int, ((-1 ≤ z14 ∧ z14 ≤ 1) ∧ (z14 = 0 ↔ z11 = x2) ∧ (z14 < 0 ↔ z11 < x2)) ∧ (((¬ z14 = 0) ∧ (K1 (z3 + 1))) ∨ ((z14 = 0) ∧ (z = z3))))))))
def d_X12_named_1 (x2 : Int) (z2 : Int) (A : St) (z : Int) : Nat → Int → Prop
  | 0, _ => False
  | nn9 + 1, z3 => tr_d_X12_named_1 x2 z2 A z (fun z3 => d_X12_named_1 x2 z2 A z nn9 z3) z3
theorem u_d_X12_named_1 {x2 : Int} {z2 : Int} {A : St} {z : Int} {nn9 : Nat} {z3 : Int} (h : tr_d_X12_named_1 x2 z2 A z (fun z3 => d_X12_named_1 x2 z2 A z nn9 z3) z3) : d_X12_named_1 x2 z2 A z (nn9 + 1) z3 := h
abbrev tr_d_X12_named_2 (x2 : Int) (z18 : Int) (A : St) (z : Int) (K2 : Int → Prop) (z19 : Int) : Prop := ((0 ≤ z19 ∧ z19 ≤ 2147483647) ∧ (((z18 ≤ z19) ∧ (z = (-1))) ∨ ((¬ z18 ≤ z19) ∧ (∃ z27 : Int, q_X12_nameOf (A 0 47) 1 z19 A z27 ∧ (∃ z30 : Int, ((-1 ≤ z30 ∧ z30 ≤ 1) ∧ (z30 = 0 ↔ z27 = x2) ∧ (z30 < 0 ↔ z27 < x2)) ∧ (((¬ z30 = 0) ∧ (K2 (z19 + 1))) ∨ ((z30 = 0) ∧ (z = z19))))))))
def d_X12_named_2 (x2 : Int) (z18 : Int) (A : St) (z : Int) : Nat → Int → Prop
  | 0, _ => False
  | nn9 + 1, z19 => tr_d_X12_named_2 x2 z18 A z (fun z19 => d_X12_named_2 x2 z18 A z nn9 z19) z19
theorem u_d_X12_named_2 {x2 : Int} {z18 : Int} {A : St} {z : Int} {nn9 : Nat} {z19 : Int} (h : tr_d_X12_named_2 x2 z18 A z (fun z19 => d_X12_named_2 x2 z18 A z nn9 z19) z19) : d_X12_named_2 x2 z18 A z (nn9 + 1) z19 := h
abbrev tr_d_X12_named_3 (x2 : Int) (z35 : Int) (A : St) (z : Int) (K3 : Int → Prop) (z36 : Int) : Prop := ((0 ≤ z36 ∧ z36 ≤ 2147483647) ∧ (((z35 ≤ z36) ∧ (z = (-1))) ∨ ((¬ z35 ≤ z36) ∧ (∃ z44 : Int, q_X12_nameOf (A 0 47) 2 z36 A z44 ∧ (∃ z47 : Int, ((-1 ≤ z47 ∧ z47 ≤ 1) ∧ (z47 = 0 ↔ z44 = x2) ∧ (z47 < 0 ↔ z44 < x2)) ∧ (((¬ z47 = 0) ∧ (K3 (z36 + 1))) ∨ ((z47 = 0) ∧ (z = z36))))))))
def d_X12_named_3 (x2 : Int) (z35 : Int) (A : St) (z : Int) : Nat → Int → Prop
  | 0, _ => False
  | nn9 + 1, z36 => tr_d_X12_named_3 x2 z35 A z (fun z36 => d_X12_named_3 x2 z35 A z nn9 z36) z36
theorem u_d_X12_named_3 {x2 : Int} {z35 : Int} {A : St} {z : Int} {nn9 : Nat} {z36 : Int} (h : tr_d_X12_named_3 x2 z35 A z (fun z36 => d_X12_named_3 x2 z35 A z nn9 z36) z36) : d_X12_named_3 x2 z35 A z (nn9 + 1) z36 := h
abbrev tr_d_X12_named_4 (x2 : Int) (z53 : Int) (A : St) (z : Int) (K4 : Int → Prop) (z54 : Int) : Prop := ((0 ≤ z54 ∧ z54 ≤ 2147483647) ∧ (((z53 ≤ z54) ∧ (z = (-1))) ∨ ((¬ z53 ≤ z54) ∧ (∃ z62 : Int, q_X12_nameOf (A 0 47) 3 z54 A z62 ∧ (∃ z65 : Int, ((-1 ≤ z65 ∧ z65 ≤ 1) ∧ (z65 = 0 ↔ z62 = x2) ∧ (z65 < 0 ↔ z62 < x2)) ∧ (((¬ z65 = 0) ∧ (K4 (z54 + 1))) ∨ ((z65 = 0) ∧ (z = z54))))))))
def d_X12_named_4 (x2 : Int) (z53 : Int) (A : St) (z : Int) : Nat → Int → Prop
  | 0, _ => False
  | nn9 + 1, z54 => tr_d_X12_named_4 x2 z53 A z (fun z54 => d_X12_named_4 x2 z53 A z nn9 z54) z54
theorem u_d_X12_named_4 {x2 : Int} {z53 : Int} {A : St} {z : Int} {nn9 : Nat} {z54 : Int} (h : tr_d_X12_named_4 x2 z53 A z (fun z54 => d_X12_named_4 x2 z53 A z nn9 z54) z54) : d_X12_named_4 x2 z53 A z (nn9 + 1) z54 := h
abbrev tr_d_X12_named_5 (x2 : Int) (z71 : Int) (A : St) (z : Int) (K5 : Int → Prop) (z72 : Int) : Prop := ((0 ≤ z72 ∧ z72 ≤ 2147483647) ∧ (((z71 ≤ z72) ∧ (z = (-1))) ∨ ((¬ z71 ≤ z72) ∧ (∃ z80 : Int, q_X12_nameOf (A 0 47) 4 z72 A z80 ∧ (∃ z83 : Int, ((-1 ≤ z83 ∧ z83 ≤ 1) ∧ (z83 = 0 ↔ z80 = x2) ∧ (z83 < 0 ↔ z80 < x2)) ∧ (((¬ z83 = 0) ∧ (K5 (z72 + 1))) ∨ ((z83 = 0) ∧ (z = z72))))))))
def d_X12_named_5 (x2 : Int) (z71 : Int) (A : St) (z : Int) : Nat → Int → Prop
  | 0, _ => False
  | nn9 + 1, z72 => tr_d_X12_named_5 x2 z71 A z (fun z72 => d_X12_named_5 x2 z71 A z nn9 z72) z72
theorem u_d_X12_named_5 {x2 : Int} {z71 : Int} {A : St} {z : Int} {nn9 : Nat} {z72 : Int} (h : tr_d_X12_named_5 x2 z71 A z (fun z72 => d_X12_named_5 x2 z71 A z nn9 z72) z72) : d_X12_named_5 x2 z71 A z (nn9 + 1) z72 := h
abbrev tr_r_X12_named (x1 : Int) (x2 : Int) (A : St) (z : Int) : Prop := (((x1 = 0) ∧ (∃ z2 : Int, z2 = A 2 ((A 0 47)).toNat ∧ (∃ nn9 : Nat, d_X12_named_1 x2 z2 A z nn9 0))) ∨ ((x1 = 1) ∧ (∃ z18 : Int, z18 = A 4 ((A 0 47)).toNat ∧ (∃ nn9 : Nat, d_X12_named_2 x2 z18 A z nn9 0))) ∨ ((x1 = 2) ∧ (∃ z35 : Int, z35 = A 11 ((A 0 47)).toNat ∧ (∃ nn9 : Nat, d_X12_named_3 x2 z35 A z nn9 0))) ∨ ((x1 = 3) ∧ (∃ z53 : Int, z53 = A 16 ((A 0 47)).toNat ∧ (∃ nn9 : Nat, d_X12_named_4 x2 z53 A z nn9 0))) ∨ ((x1 = 4) ∧ (∃ z71 : Int, z71 = A 19 ((A 0 47)).toNat ∧ (∃ nn9 : Nat, d_X12_named_5 x2 z71 A z nn9 0))))
def r_X12_named (x1 : Int) (x2 : Int) (A : St) (z : Int) : Prop := tr_r_X12_named x1 x2 A z
theorem u_r_X12_named {x1 : Int} {x2 : Int} {A : St} {z : Int} (h : tr_r_X12_named x1 x2 A z) : r_X12_named x1 x2 A z := h
def q_X12_named (x1 : Int) (x2 : Int) (A : St) (z : Int) : Prop := r_X12_named x1 x2 A z ∧ (-1 ≤ z ∧ z ≤ 9 ∧ (x1 = 0 → z ≤ 7) ∧ (x1 = 2 → z ≤ 3) ∧ (x1 = 3 → z ≤ 2) ∧ (x1 = 4 → z ≤ 3))
def ws_mc_X12_named : List Cond := .code yX12_named cX12_named 6 (some .int) :: WX
set_option maxHeartbeats 4000000 in
set_option maxRecDepth 100000 in
theorem mc_X12_named (l : Launch) (dC : Nat → ClassId) (dI : Nat → Nat → Nat) (cB cI cJ cZ cQ : ClassId) (q : Nat → Nat) (A : St) (x1 x2 : Int) (hI : IM A) (hx1 : (0 : Int) ≤ x1 ∧ x1 ≤ 4) (hx2 : (-9223372036854775808 : Int) ≤ x2 ∧ x2 ≤ 9223372036854775807) : XMi l yX12_named ws_mc_X12_named ({ frames := 1, cells := 0, slots := 0, locals := 23 } : Room) (dC, dI) (tyA cB cI cJ cZ cQ) (WM cI cJ cZ q) A [.ref (q 0), .int (iI x1), .long (jI x2)] (fun z u => A = u ∧ r_X12_named x1 x2 A z ∧ (-1 ≤ z ∧ z ≤ 9 ∧ (x1 = 0 → z ≤ 7) ∧ (x1 = 2 → z ≤ 3) ∧ (x1 = 3 → z ≤ 2) ∧ (x1 = 4 → z ≤ 3))) := by
  refine x_meti (cc := cX12_named) (maxL := 6) WM_adr (by decide +kernel) rfl (Nat.le_of_ble_eq_true rfl) (fun p e s m below meth c Q AS ls hx hb hml hown hts hK hDD hA0 hP hS hl RET => ?_)
  have hown : s.vm.findClass RX12 = some m.cls := hown
  have hl : lv_has ls 6 [(0, .ref (q 0)), (1, .int (iI x1)), (2, .long (jI x2))] := hl
  have hiX12 : ∀ w ∈ u_ws RX12 TX12 85, w ∈ ws_mc_X12_named := fun w h => List.mem_cons_of_mem _ (wx_lay w h)
  obtain ⟨H, hHe⟩ : ∃ H : Heap, H = s.heap := ⟨_, rfl⟩
  rw [← hHe] at hP
  have hS : va_S AS s.heap H [] := by rw [hHe]; exact hS
  suffices hgo : ∀ locs : List Loc, va_S AS s.heap H locs → W p l e (headSpec ws_mc_X12_named ({ frames := 1, cells := 0, slots := 0, locals := 23 } : Room)).room s m [.ref (q 0), .int (iI x1), .long (jI x2)].toArray below meth c H locs 0 0 Q (F0 m 0 ls []) by
    have := hgo [] hS
    rw [hHe] at this
    exact this
  clear hS hHe
  intro locs hS
  rcases (show x1 = 0 ∨ x1 = 1 ∨ x1 = 2 ∨ x1 = 3 ∨ x1 = 4 by omega) with rfl | rfl | rfl | rfl | rfl
  · have hl : lv_has ls 6 [(0, .ref (q 0)), (1, .int (iI 0)), (2, .long (jI x2))] := hl
    refine lv_iload_n hx hb dX12_named_0 rfl (lv_at hl 1 rfl) ?_
    refine lv_if_ne (tgt := 16) hx hb dX12_named_1 (by decide) (fun c1 => absurd c1 (by decide +kernel)) (fun _ => ?_)
    refine lv_aload_n hx hb dX12_named_4 rfl (lv_at hl 0 rfl) ?_
    refine va_get (D := (dC, dI)) (ci := 12) (v := .ref (q 2)) (C := RX12) (T := TX12) (N := 85) hx hb hts hiX12 hown hK hP 0 wm0 rfl 13 (by decide) (hts _ (List.mem_cons_of_mem _ (wl_in_1 _ (List.mem_of_getElem? (i := 11) rfl)))) (fun _ h9 => h9) rfl dX12_named_5 ?_
    refine lv_aload_n hx hb dX12_named_8 rfl (lv_at hl 0 rfl) ?_
    refine va_get (D := (dC, dI)) (ci := 12) (v := .int (iI (A 0 47))) (C := RX12) (T := TX12) (N := 85) hx hb hts hiX12 hown hK hP 0 wm0 rfl 47 (by decide) (hts _ (List.mem_cons_of_mem _ (wl_in_1 _ (List.mem_of_getElem? (i := 12) rfl)))) (fun _ h9 => h9) rfl dX12_named_9 ?_
    have r_A_0_47 : (0 : Int) ≤ (A 0 47) ∧ (A 0 47) ≤ 1 := hI 0 47
    refine x_iald hx hb hK hP 2 1 wm2 rfl (by omega) (by decide) dX12_named_12 (fun z2 hz2 => ?_)
    have rz2 : (0 : Int) ≤ z2 ∧ z2 ≤ 8 := by rw [hz2]; exact hI 2 _
    have gz2 := Hd.mk hz2
    have hz2 : z2 = A 2 ((A 0 47)).toNat := hz2
    refine lv_goto (tgt := 76) hx hb dX12_named_13 (by decide) ?_
    refine lv_istore (lv' := [(4, .int (iI z2)), (0, .ref (q 0)), (1, .int (iI 0)), (2, .long (jI x2))]) hx hb dX12_named_76 hl (by decide) rfl (fun ls hl => ?_)
    refine lv_iconst (v := iI 0) hx hb dX12_named_78 (by decide +kernel) ?_
    refine lv_istore (lv' := [(5, .int (iI 0)), (4, .int (iI z2)), (0, .ref (q 0)), (1, .int (iI 0)), (2, .long (jI x2))]) hx hb dX12_named_79 hl (by decide) rfl (fun ls hl => ?_)
    have L81_5 : ∀ (n7 : Nat) (z3 : Int) (H : Heap) (locs : List Loc) (ls : Array Slot), (0 ≤ z3) → (0 ≤ z3 ∧ z3 ≤ 2147483647) → (∀ (z : Int), (∃ mm1 : Nat, (d_X12_named_1 x2 z2 A z mm1 z3)) → r_X12_named 0 x2 A z) → ((z2 - z3 + 1).toNat = n7) → va_P (dC, dI) vwCl (WM cI cJ cZ q A) H → va_S AS s.heap H locs → lv_has ls 6 [(5, .int (iI z3)), (4, .int (iI z2)), (0, .ref (q 0)), (1, .int (iI 0)), (2, .long (jI x2))] → W p l e (headSpec ws_mc_X12_named ({ frames := 1, cells := 0, slots := 0, locals := 23 } : Room)).room s m [.ref (q 0), .int (iI 0), .long (jI x2)].toArray below meth c H locs 0 0 Q (F0 m 81 ls []) := by
      intro n7
      induction n7 using Nat.strongRecOn with
      | ind n7 ih6 =>
        intro z3 H locs ls f8 f9 hk1 hn7 hP hS hl
        refine lv_iload hx hb dX12_named_81 (lv_at hl 0 rfl) ?_
        refine lv_iload hx hb dX12_named_83 (lv_at hl 1 rfl) ?_
        refine lv_icmp_ge (tgt := 113) hx hb dX12_named_85 (by decide) (fun c10 => ?_) (fun c10 => ?_)
        · have c10 : z2 ≤ z3 := (i_le (rb rz2 (by decide) (by decide)) (rb f9 (by decide) (by decide))).mp c10
          refine lv_iconst (v := iI (-1)) hx hb dX12_named_113 (by decide +kernel) ?_
          exact RET (-1) _ _ _ _ _ ⟨rfl, hk1 _ ⟨0 + 1, (u_d_X12_named_1 ⟨f9, (Or.inl ⟨c10, rfl⟩)⟩)⟩, by omega⟩ hP hS dX12_named_114
        · have c10 : ¬ z2 ≤ z3 := mt (i_le (rb rz2 (by decide) (by decide)) (rb f9 (by decide) (by decide))).mpr c10
          refine lv_aload_n hx hb dX12_named_88 rfl (lv_at hl 2 rfl) ?_
          refine lv_aload_n hx hb dX12_named_89 rfl (lv_at hl 2 rfl) ?_
          refine va_get (D := (dC, dI)) (ci := 12) (v := .int (iI (A 0 47))) (C := RX12) (T := TX12) (N := 85) hx hb hts hiX12 hown hK hP 0 wm0 rfl 47 (by decide) (hts _ (List.mem_cons_of_mem _ (wl_in_1 _ (List.mem_of_getElem? (i := 12) rfl)))) (fun _ h9 => h9) rfl dX12_named_90 ?_
          refine lv_iload_n hx hb dX12_named_93 rfl (lv_at hl 3 rfl) ?_
          refine lv_iload hx hb dX12_named_94 (lv_at hl 0 rfl) ?_
          refine x_calll (As := [.int (iI (A 0 47)), .int (iI 0), .int (iI z3)]) (rest := []) ⟨hx, hb, hml, hown, hts⟩ (mc_X12_nameOf l dC dI cB cI cJ cZ cQ q _ (A 0 47) 0 z3 hI r_A_0_47 ⟨by decide, by decide⟩ (by omega) (by omega)) (cwV 3 hts (goodV (wl_in_1 _ (List.mem_of_getElem? (i := 17) rfl)) (wl_in_1 _ (List.mem_of_getElem? (i := 18) rfl)) (wl_in_1 _ (List.mem_of_getElem? (i := 19) rfl)) (wl_in_0 _ (List.mem_of_getElem? (i := 8) rfl)) (wl_in_1 _ (List.mem_of_getElem? (i := 20) rfl))) rfl rfl rfl (by decide +kernel) ⟨Nat.le_of_ble_eq_true rfl, Nat.le_of_ble_eq_true rfl⟩) hK hDD hA0 hP hS 0 12 wm0 rfl rfl hl.1 (Nat.le_of_ble_eq_true rfl) dX12_named_96 (fun z11 A12 H locs hw13 hP hS => ?_)
          obtain ⟨rfl, hw13⟩ := hw13
          have ghw13 : q_X12_nameOf (A 0 47) 0 z3 A z11 := hw13
          have hw13 := hw13.2
          refine lv_lload_n hx hb dX12_named_99 rfl (lv_at hl 4 rfl) ?_
          refine x_lcmp hx hb dX12_named_100 (by omega) (by omega) (fun z14 hz14 hz14b hz14c => ?_)
          have gz14 := Hd.mk (And.intro hz14 (And.intro hz14b hz14c))
          refine lv_if_ne (tgt := 107) hx hb dX12_named_101 (by decide) (fun c15 => ?_) (fun c15 => ?_)
          · have c15 : ¬ z14 = 0 := mt (i_eq0 (by omega)).mpr c15
            refine lv_iinc (v := iI (z3 + 1)) (lv' := [(5, .int (iI (z3 + 1))), (4, .int (iI z2)), (0, .ref (q 0)), (1, .int (iI 0)), (2, .long (jI x2))]) hx hb dX12_named_107 hl (k := 0) rfl (i_inc (by omega)) (by decide) rfl (fun ls hl => ?_)
            refine lv_goto (tgt := 81) hx hb dX12_named_110 (by decide) ?_
            exact ih6 _ (by omega) (z3 + 1) _ _ _ (by omega) (by omega) (fun zq ⟨mm1, hq⟩ => hk1 _ ⟨mm1 + 1, (u_d_X12_named_1 ⟨f9, (Or.inr ⟨c10, ⟨z11, ghw13, ⟨z14, gz14.out, (Or.inl ⟨c15, hq⟩)⟩⟩⟩)⟩)⟩) rfl hP hS (lv_sub hl [0, 1, 2, 3, 4] rfl)
          · have c15 : z14 = 0 := (i_eq0 (by omega)).mp c15
            refine lv_iload hx hb dX12_named_104 (lv_at hl 0 rfl) ?_
            exact RET z3 _ _ _ _ _ ⟨rfl, hk1 _ ⟨0 + 1, (u_d_X12_named_1 ⟨f9, (Or.inr ⟨c10, ⟨z11, ghw13, ⟨z14, gz14.out, (Or.inr ⟨c15, rfl⟩)⟩⟩⟩)⟩)⟩, by omega⟩ hP hS dX12_named_106
    exact L81_5 _ 0 _ _ _ (by omega) (by omega) (fun zq ⟨mm1, hq⟩ => (u_r_X12_named (Or.inl ⟨rfl, ⟨z2, gz2.out, ⟨mm1, hq⟩⟩⟩))) rfl hP hS (lv_sub hl [0, 1, 2, 3, 4] rfl)
  · have hl : lv_has ls 6 [(0, .ref (q 0)), (1, .int (iI 1)), (2, .long (jI x2))] := hl
    refine lv_iload_n hx hb dX12_named_0 rfl (lv_at hl 1 rfl) ?_
    refine lv_if_ne (tgt := 16) hx hb dX12_named_1 (by decide) (fun _ => ?_) (fun c16 => absurd c16 (by decide +kernel))
    refine lv_iload_n hx hb dX12_named_16 rfl (lv_at hl 1 rfl) ?_
    refine lv_iconst (v := iI 1) hx hb dX12_named_17 (by decide +kernel) ?_
    refine lv_icmp_ne (tgt := 33) hx hb dX12_named_18 (by decide) (fun c17 => absurd c17 (by decide +kernel)) (fun _ => ?_)
    refine lv_aload_n hx hb dX12_named_21 rfl (lv_at hl 0 rfl) ?_
    refine va_get (D := (dC, dI)) (ci := 12) (v := .ref (q 4)) (C := RX12) (T := TX12) (N := 85) hx hb hts hiX12 hown hK hP 0 wm0 rfl 15 (by decide) (hts _ (List.mem_cons_of_mem _ (wl_in_1 _ (List.mem_of_getElem? (i := 13) rfl)))) (fun _ h9 => h9) rfl dX12_named_22 ?_
    refine lv_aload_n hx hb dX12_named_25 rfl (lv_at hl 0 rfl) ?_
    refine va_get (D := (dC, dI)) (ci := 12) (v := .int (iI (A 0 47))) (C := RX12) (T := TX12) (N := 85) hx hb hts hiX12 hown hK hP 0 wm0 rfl 47 (by decide) (hts _ (List.mem_cons_of_mem _ (wl_in_1 _ (List.mem_of_getElem? (i := 12) rfl)))) (fun _ h9 => h9) rfl dX12_named_26 ?_
    have r_A_0_47 : (0 : Int) ≤ (A 0 47) ∧ (A 0 47) ≤ 1 := hI 0 47
    refine x_iald hx hb hK hP 4 1 wm4 rfl (by omega) (by decide) dX12_named_29 (fun z18 hz18 => ?_)
    have rz18 : (0 : Int) ≤ z18 ∧ z18 ≤ 10 := by rw [hz18]; exact hI 4 _
    have gz18 := Hd.mk hz18
    have hz18 : z18 = A 4 ((A 0 47)).toNat := hz18
    refine lv_goto (tgt := 76) hx hb dX12_named_30 (by decide) ?_
    refine lv_istore (lv' := [(4, .int (iI z18)), (0, .ref (q 0)), (1, .int (iI 1)), (2, .long (jI x2))]) hx hb dX12_named_76 hl (by decide) rfl (fun ls hl => ?_)
    refine lv_iconst (v := iI 0) hx hb dX12_named_78 (by decide +kernel) ?_
    refine lv_istore (lv' := [(5, .int (iI 0)), (4, .int (iI z18)), (0, .ref (q 0)), (1, .int (iI 1)), (2, .long (jI x2))]) hx hb dX12_named_79 hl (by decide) rfl (fun ls hl => ?_)
    have L81_21 : ∀ (n23 : Nat) (z19 : Int) (H : Heap) (locs : List Loc) (ls : Array Slot), (0 ≤ z19) → (0 ≤ z19 ∧ z19 ≤ 2147483647) → (∀ (z : Int), (∃ mm2 : Nat, (d_X12_named_2 x2 z18 A z mm2 z19)) → r_X12_named 1 x2 A z) → ((z18 - z19 + 1).toNat = n23) → va_P (dC, dI) vwCl (WM cI cJ cZ q A) H → va_S AS s.heap H locs → lv_has ls 6 [(5, .int (iI z19)), (4, .int (iI z18)), (0, .ref (q 0)), (1, .int (iI 1)), (2, .long (jI x2))] → W p l e (headSpec ws_mc_X12_named ({ frames := 1, cells := 0, slots := 0, locals := 23 } : Room)).room s m [.ref (q 0), .int (iI 1), .long (jI x2)].toArray below meth c H locs 0 0 Q (F0 m 81 ls []) := by
      intro n23
      induction n23 using Nat.strongRecOn with
      | ind n23 ih22 =>
        intro z19 H locs ls f24 f25 hk2 hn23 hP hS hl
        refine lv_iload hx hb dX12_named_81 (lv_at hl 0 rfl) ?_
        refine lv_iload hx hb dX12_named_83 (lv_at hl 1 rfl) ?_
        refine lv_icmp_ge (tgt := 113) hx hb dX12_named_85 (by decide) (fun c26 => ?_) (fun c26 => ?_)
        · have c26 : z18 ≤ z19 := (i_le (rb rz18 (by decide) (by decide)) (rb f25 (by decide) (by decide))).mp c26
          refine lv_iconst (v := iI (-1)) hx hb dX12_named_113 (by decide +kernel) ?_
          exact RET (-1) _ _ _ _ _ ⟨rfl, hk2 _ ⟨0 + 1, (u_d_X12_named_2 ⟨f25, (Or.inl ⟨c26, rfl⟩)⟩)⟩, by omega⟩ hP hS dX12_named_114
        · have c26 : ¬ z18 ≤ z19 := mt (i_le (rb rz18 (by decide) (by decide)) (rb f25 (by decide) (by decide))).mpr c26
          refine lv_aload_n hx hb dX12_named_88 rfl (lv_at hl 2 rfl) ?_
          refine lv_aload_n hx hb dX12_named_89 rfl (lv_at hl 2 rfl) ?_
          refine va_get (D := (dC, dI)) (ci := 12) (v := .int (iI (A 0 47))) (C := RX12) (T := TX12) (N := 85) hx hb hts hiX12 hown hK hP 0 wm0 rfl 47 (by decide) (hts _ (List.mem_cons_of_mem _ (wl_in_1 _ (List.mem_of_getElem? (i := 12) rfl)))) (fun _ h9 => h9) rfl dX12_named_90 ?_
          refine lv_iload_n hx hb dX12_named_93 rfl (lv_at hl 3 rfl) ?_
          refine lv_iload hx hb dX12_named_94 (lv_at hl 0 rfl) ?_
          refine x_calll (As := [.int (iI (A 0 47)), .int (iI 1), .int (iI z19)]) (rest := []) ⟨hx, hb, hml, hown, hts⟩ (mc_X12_nameOf l dC dI cB cI cJ cZ cQ q _ (A 0 47) 1 z19 hI r_A_0_47 ⟨by decide, by decide⟩ (by omega) (by omega)) (cwV 3 hts (goodV (wl_in_1 _ (List.mem_of_getElem? (i := 17) rfl)) (wl_in_1 _ (List.mem_of_getElem? (i := 18) rfl)) (wl_in_1 _ (List.mem_of_getElem? (i := 19) rfl)) (wl_in_0 _ (List.mem_of_getElem? (i := 8) rfl)) (wl_in_1 _ (List.mem_of_getElem? (i := 20) rfl))) rfl rfl rfl (by decide +kernel) ⟨Nat.le_of_ble_eq_true rfl, Nat.le_of_ble_eq_true rfl⟩) hK hDD hA0 hP hS 0 12 wm0 rfl rfl hl.1 (Nat.le_of_ble_eq_true rfl) dX12_named_96 (fun z27 A28 H locs hw29 hP hS => ?_)
          obtain ⟨rfl, hw29⟩ := hw29
          have ghw29 : q_X12_nameOf (A 0 47) 1 z19 A z27 := hw29
          have hw29 := hw29.2
          refine lv_lload_n hx hb dX12_named_99 rfl (lv_at hl 4 rfl) ?_
          refine x_lcmp hx hb dX12_named_100 (by omega) (by omega) (fun z30 hz30 hz30b hz30c => ?_)
          have gz30 := Hd.mk (And.intro hz30 (And.intro hz30b hz30c))
          refine lv_if_ne (tgt := 107) hx hb dX12_named_101 (by decide) (fun c31 => ?_) (fun c31 => ?_)
          · have c31 : ¬ z30 = 0 := mt (i_eq0 (by omega)).mpr c31
            refine lv_iinc (v := iI (z19 + 1)) (lv' := [(5, .int (iI (z19 + 1))), (4, .int (iI z18)), (0, .ref (q 0)), (1, .int (iI 1)), (2, .long (jI x2))]) hx hb dX12_named_107 hl (k := 0) rfl (i_inc (by omega)) (by decide) rfl (fun ls hl => ?_)
            refine lv_goto (tgt := 81) hx hb dX12_named_110 (by decide) ?_
            exact ih22 _ (by omega) (z19 + 1) _ _ _ (by omega) (by omega) (fun zq ⟨mm2, hq⟩ => hk2 _ ⟨mm2 + 1, (u_d_X12_named_2 ⟨f25, (Or.inr ⟨c26, ⟨z27, ghw29, ⟨z30, gz30.out, (Or.inl ⟨c31, hq⟩)⟩⟩⟩)⟩)⟩) rfl hP hS (lv_sub hl [0, 1, 2, 3, 4] rfl)
          · have c31 : z30 = 0 := (i_eq0 (by omega)).mp c31
            refine lv_iload hx hb dX12_named_104 (lv_at hl 0 rfl) ?_
            exact RET z19 _ _ _ _ _ ⟨rfl, hk2 _ ⟨0 + 1, (u_d_X12_named_2 ⟨f25, (Or.inr ⟨c26, ⟨z27, ghw29, ⟨z30, gz30.out, (Or.inr ⟨c31, rfl⟩)⟩⟩⟩)⟩)⟩, by omega⟩ hP hS dX12_named_106
    exact L81_21 _ 0 _ _ _ (by omega) (by omega) (fun zq ⟨mm2, hq⟩ => (u_r_X12_named (Or.inr (Or.inl ⟨rfl, ⟨z18, gz18.out, ⟨mm2, hq⟩⟩⟩)))) rfl hP hS (lv_sub hl [0, 1, 2, 3, 4] rfl)
  · have hl : lv_has ls 6 [(0, .ref (q 0)), (1, .int (iI 2)), (2, .long (jI x2))] := hl
    refine lv_iload_n hx hb dX12_named_0 rfl (lv_at hl 1 rfl) ?_
    refine lv_if_ne (tgt := 16) hx hb dX12_named_1 (by decide) (fun _ => ?_) (fun c32 => absurd c32 (by decide +kernel))
    refine lv_iload_n hx hb dX12_named_16 rfl (lv_at hl 1 rfl) ?_
    refine lv_iconst (v := iI 1) hx hb dX12_named_17 (by decide +kernel) ?_
    refine lv_icmp_ne (tgt := 33) hx hb dX12_named_18 (by decide) (fun _ => ?_) (fun c33 => absurd c33 (by decide +kernel))
    refine lv_iload_n hx hb dX12_named_33 rfl (lv_at hl 1 rfl) ?_
    refine lv_iconst (v := iI 2) hx hb dX12_named_34 (by decide +kernel) ?_
    refine lv_icmp_ne (tgt := 50) hx hb dX12_named_35 (by decide) (fun c34 => absurd c34 (by decide +kernel)) (fun _ => ?_)
    refine lv_aload_n hx hb dX12_named_38 rfl (lv_at hl 0 rfl) ?_
    refine va_get (D := (dC, dI)) (ci := 12) (v := .ref (q 11)) (C := RX12) (T := TX12) (N := 85) hx hb hts hiX12 hown hK hP 0 wm0 rfl 22 (by decide) (hts _ (List.mem_cons_of_mem _ (wl_in_1 _ (List.mem_of_getElem? (i := 14) rfl)))) (fun _ h9 => h9) rfl dX12_named_39 ?_
    refine lv_aload_n hx hb dX12_named_42 rfl (lv_at hl 0 rfl) ?_
    refine va_get (D := (dC, dI)) (ci := 12) (v := .int (iI (A 0 47))) (C := RX12) (T := TX12) (N := 85) hx hb hts hiX12 hown hK hP 0 wm0 rfl 47 (by decide) (hts _ (List.mem_cons_of_mem _ (wl_in_1 _ (List.mem_of_getElem? (i := 12) rfl)))) (fun _ h9 => h9) rfl dX12_named_43 ?_
    have r_A_0_47 : (0 : Int) ≤ (A 0 47) ∧ (A 0 47) ≤ 1 := hI 0 47
    refine x_iald hx hb hK hP 11 1 wm11 rfl (by omega) (by decide) dX12_named_46 (fun z35 hz35 => ?_)
    have rz35 : (0 : Int) ≤ z35 ∧ z35 ≤ 4 := by rw [hz35]; exact hI 11 _
    have gz35 := Hd.mk hz35
    have hz35 : z35 = A 11 ((A 0 47)).toNat := hz35
    refine lv_goto (tgt := 76) hx hb dX12_named_47 (by decide) ?_
    refine lv_istore (lv' := [(4, .int (iI z35)), (0, .ref (q 0)), (1, .int (iI 2)), (2, .long (jI x2))]) hx hb dX12_named_76 hl (by decide) rfl (fun ls hl => ?_)
    refine lv_iconst (v := iI 0) hx hb dX12_named_78 (by decide +kernel) ?_
    refine lv_istore (lv' := [(5, .int (iI 0)), (4, .int (iI z35)), (0, .ref (q 0)), (1, .int (iI 2)), (2, .long (jI x2))]) hx hb dX12_named_79 hl (by decide) rfl (fun ls hl => ?_)
    have L81_38 : ∀ (n40 : Nat) (z36 : Int) (H : Heap) (locs : List Loc) (ls : Array Slot), (0 ≤ z36) → (0 ≤ z36 ∧ z36 ≤ 2147483647) → (∀ (z : Int), (∃ mm3 : Nat, (d_X12_named_3 x2 z35 A z mm3 z36)) → r_X12_named 2 x2 A z) → ((z35 - z36 + 1).toNat = n40) → va_P (dC, dI) vwCl (WM cI cJ cZ q A) H → va_S AS s.heap H locs → lv_has ls 6 [(5, .int (iI z36)), (4, .int (iI z35)), (0, .ref (q 0)), (1, .int (iI 2)), (2, .long (jI x2))] → W p l e (headSpec ws_mc_X12_named ({ frames := 1, cells := 0, slots := 0, locals := 23 } : Room)).room s m [.ref (q 0), .int (iI 2), .long (jI x2)].toArray below meth c H locs 0 0 Q (F0 m 81 ls []) := by
      intro n40
      induction n40 using Nat.strongRecOn with
      | ind n40 ih39 =>
        intro z36 H locs ls f41 f42 hk3 hn40 hP hS hl
        refine lv_iload hx hb dX12_named_81 (lv_at hl 0 rfl) ?_
        refine lv_iload hx hb dX12_named_83 (lv_at hl 1 rfl) ?_
        refine lv_icmp_ge (tgt := 113) hx hb dX12_named_85 (by decide) (fun c43 => ?_) (fun c43 => ?_)
        · have c43 : z35 ≤ z36 := (i_le (rb rz35 (by decide) (by decide)) (rb f42 (by decide) (by decide))).mp c43
          refine lv_iconst (v := iI (-1)) hx hb dX12_named_113 (by decide +kernel) ?_
          exact RET (-1) _ _ _ _ _ ⟨rfl, hk3 _ ⟨0 + 1, (u_d_X12_named_3 ⟨f42, (Or.inl ⟨c43, rfl⟩)⟩)⟩, by omega⟩ hP hS dX12_named_114
        · have c43 : ¬ z35 ≤ z36 := mt (i_le (rb rz35 (by decide) (by decide)) (rb f42 (by decide) (by decide))).mpr c43
          refine lv_aload_n hx hb dX12_named_88 rfl (lv_at hl 2 rfl) ?_
          refine lv_aload_n hx hb dX12_named_89 rfl (lv_at hl 2 rfl) ?_
          refine va_get (D := (dC, dI)) (ci := 12) (v := .int (iI (A 0 47))) (C := RX12) (T := TX12) (N := 85) hx hb hts hiX12 hown hK hP 0 wm0 rfl 47 (by decide) (hts _ (List.mem_cons_of_mem _ (wl_in_1 _ (List.mem_of_getElem? (i := 12) rfl)))) (fun _ h9 => h9) rfl dX12_named_90 ?_
          refine lv_iload_n hx hb dX12_named_93 rfl (lv_at hl 3 rfl) ?_
          refine lv_iload hx hb dX12_named_94 (lv_at hl 0 rfl) ?_
          refine x_calll (As := [.int (iI (A 0 47)), .int (iI 2), .int (iI z36)]) (rest := []) ⟨hx, hb, hml, hown, hts⟩ (mc_X12_nameOf l dC dI cB cI cJ cZ cQ q _ (A 0 47) 2 z36 hI r_A_0_47 ⟨by decide, by decide⟩ (by omega) (by omega)) (cwV 3 hts (goodV (wl_in_1 _ (List.mem_of_getElem? (i := 17) rfl)) (wl_in_1 _ (List.mem_of_getElem? (i := 18) rfl)) (wl_in_1 _ (List.mem_of_getElem? (i := 19) rfl)) (wl_in_0 _ (List.mem_of_getElem? (i := 8) rfl)) (wl_in_1 _ (List.mem_of_getElem? (i := 20) rfl))) rfl rfl rfl (by decide +kernel) ⟨Nat.le_of_ble_eq_true rfl, Nat.le_of_ble_eq_true rfl⟩) hK hDD hA0 hP hS 0 12 wm0 rfl rfl hl.1 (Nat.le_of_ble_eq_true rfl) dX12_named_96 (fun z44 A45 H locs hw46 hP hS => ?_)
          obtain ⟨rfl, hw46⟩ := hw46
          have ghw46 : q_X12_nameOf (A 0 47) 2 z36 A z44 := hw46
          have hw46 := hw46.2
          refine lv_lload_n hx hb dX12_named_99 rfl (lv_at hl 4 rfl) ?_
          refine x_lcmp hx hb dX12_named_100 (by omega) (by omega) (fun z47 hz47 hz47b hz47c => ?_)
          have gz47 := Hd.mk (And.intro hz47 (And.intro hz47b hz47c))
          refine lv_if_ne (tgt := 107) hx hb dX12_named_101 (by decide) (fun c48 => ?_) (fun c48 => ?_)
          · have c48 : ¬ z47 = 0 := mt (i_eq0 (by omega)).mpr c48
            refine lv_iinc (v := iI (z36 + 1)) (lv' := [(5, .int (iI (z36 + 1))), (4, .int (iI z35)), (0, .ref (q 0)), (1, .int (iI 2)), (2, .long (jI x2))]) hx hb dX12_named_107 hl (k := 0) rfl (i_inc (by omega)) (by decide) rfl (fun ls hl => ?_)
            refine lv_goto (tgt := 81) hx hb dX12_named_110 (by decide) ?_
            exact ih39 _ (by omega) (z36 + 1) _ _ _ (by omega) (by omega) (fun zq ⟨mm3, hq⟩ => hk3 _ ⟨mm3 + 1, (u_d_X12_named_3 ⟨f42, (Or.inr ⟨c43, ⟨z44, ghw46, ⟨z47, gz47.out, (Or.inl ⟨c48, hq⟩)⟩⟩⟩)⟩)⟩) rfl hP hS (lv_sub hl [0, 1, 2, 3, 4] rfl)
          · have c48 : z47 = 0 := (i_eq0 (by omega)).mp c48
            refine lv_iload hx hb dX12_named_104 (lv_at hl 0 rfl) ?_
            exact RET z36 _ _ _ _ _ ⟨rfl, hk3 _ ⟨0 + 1, (u_d_X12_named_3 ⟨f42, (Or.inr ⟨c43, ⟨z44, ghw46, ⟨z47, gz47.out, (Or.inr ⟨c48, rfl⟩)⟩⟩⟩)⟩)⟩, by omega⟩ hP hS dX12_named_106
    exact L81_38 _ 0 _ _ _ (by omega) (by omega) (fun zq ⟨mm3, hq⟩ => (u_r_X12_named (Or.inr (Or.inr (Or.inl ⟨rfl, ⟨z35, gz35.out, ⟨mm3, hq⟩⟩⟩))))) rfl hP hS (lv_sub hl [0, 1, 2, 3, 4] rfl)
  · have hl : lv_has ls 6 [(0, .ref (q 0)), (1, .int (iI 3)), (2, .long (jI x2))] := hl
    refine lv_iload_n hx hb dX12_named_0 rfl (lv_at hl 1 rfl) ?_
    refine lv_if_ne (tgt := 16) hx hb dX12_named_1 (by decide) (fun _ => ?_) (fun c49 => absurd c49 (by decide +kernel))
    refine lv_iload_n hx hb dX12_named_16 rfl (lv_at hl 1 rfl) ?_
    refine lv_iconst (v := iI 1) hx hb dX12_named_17 (by decide +kernel) ?_
    refine lv_icmp_ne (tgt := 33) hx hb dX12_named_18 (by decide) (fun _ => ?_) (fun c50 => absurd c50 (by decide +kernel))
    refine lv_iload_n hx hb dX12_named_33 rfl (lv_at hl 1 rfl) ?_
    refine lv_iconst (v := iI 2) hx hb dX12_named_34 (by decide +kernel) ?_
    refine lv_icmp_ne (tgt := 50) hx hb dX12_named_35 (by decide) (fun _ => ?_) (fun c51 => absurd c51 (by decide +kernel))
    refine lv_iload_n hx hb dX12_named_50 rfl (lv_at hl 1 rfl) ?_
    refine lv_iconst (v := iI 3) hx hb dX12_named_51 (by decide +kernel) ?_
    refine lv_icmp_ne (tgt := 67) hx hb dX12_named_52 (by decide) (fun c52 => absurd c52 (by decide +kernel)) (fun _ => ?_)
    refine lv_aload_n hx hb dX12_named_55 rfl (lv_at hl 0 rfl) ?_
    refine va_get (D := (dC, dI)) (ci := 12) (v := .ref (q 16)) (C := RX12) (T := TX12) (N := 85) hx hb hts hiX12 hown hK hP 0 wm0 rfl 27 (by decide) (hts _ (List.mem_cons_of_mem _ (wl_in_1 _ (List.mem_of_getElem? (i := 15) rfl)))) (fun _ h9 => h9) rfl dX12_named_56 ?_
    refine lv_aload_n hx hb dX12_named_59 rfl (lv_at hl 0 rfl) ?_
    refine va_get (D := (dC, dI)) (ci := 12) (v := .int (iI (A 0 47))) (C := RX12) (T := TX12) (N := 85) hx hb hts hiX12 hown hK hP 0 wm0 rfl 47 (by decide) (hts _ (List.mem_cons_of_mem _ (wl_in_1 _ (List.mem_of_getElem? (i := 12) rfl)))) (fun _ h9 => h9) rfl dX12_named_60 ?_
    have r_A_0_47 : (0 : Int) ≤ (A 0 47) ∧ (A 0 47) ≤ 1 := hI 0 47
    refine x_iald hx hb hK hP 16 1 wm16 rfl (by omega) (by decide) dX12_named_63 (fun z53 hz53 => ?_)
    have rz53 : (0 : Int) ≤ z53 ∧ z53 ≤ 3 := by rw [hz53]; exact hI 16 _
    have gz53 := Hd.mk hz53
    have hz53 : z53 = A 16 ((A 0 47)).toNat := hz53
    refine lv_goto (tgt := 76) hx hb dX12_named_64 (by decide) ?_
    refine lv_istore (lv' := [(4, .int (iI z53)), (0, .ref (q 0)), (1, .int (iI 3)), (2, .long (jI x2))]) hx hb dX12_named_76 hl (by decide) rfl (fun ls hl => ?_)
    refine lv_iconst (v := iI 0) hx hb dX12_named_78 (by decide +kernel) ?_
    refine lv_istore (lv' := [(5, .int (iI 0)), (4, .int (iI z53)), (0, .ref (q 0)), (1, .int (iI 3)), (2, .long (jI x2))]) hx hb dX12_named_79 hl (by decide) rfl (fun ls hl => ?_)
    have L81_56 : ∀ (n58 : Nat) (z54 : Int) (H : Heap) (locs : List Loc) (ls : Array Slot), (0 ≤ z54) → (0 ≤ z54 ∧ z54 ≤ 2147483647) → (∀ (z : Int), (∃ mm4 : Nat, (d_X12_named_4 x2 z53 A z mm4 z54)) → r_X12_named 3 x2 A z) → ((z53 - z54 + 1).toNat = n58) → va_P (dC, dI) vwCl (WM cI cJ cZ q A) H → va_S AS s.heap H locs → lv_has ls 6 [(5, .int (iI z54)), (4, .int (iI z53)), (0, .ref (q 0)), (1, .int (iI 3)), (2, .long (jI x2))] → W p l e (headSpec ws_mc_X12_named ({ frames := 1, cells := 0, slots := 0, locals := 23 } : Room)).room s m [.ref (q 0), .int (iI 3), .long (jI x2)].toArray below meth c H locs 0 0 Q (F0 m 81 ls []) := by
      intro n58
      induction n58 using Nat.strongRecOn with
      | ind n58 ih57 =>
        intro z54 H locs ls f59 f60 hk4 hn58 hP hS hl
        refine lv_iload hx hb dX12_named_81 (lv_at hl 0 rfl) ?_
        refine lv_iload hx hb dX12_named_83 (lv_at hl 1 rfl) ?_
        refine lv_icmp_ge (tgt := 113) hx hb dX12_named_85 (by decide) (fun c61 => ?_) (fun c61 => ?_)
        · have c61 : z53 ≤ z54 := (i_le (rb rz53 (by decide) (by decide)) (rb f60 (by decide) (by decide))).mp c61
          refine lv_iconst (v := iI (-1)) hx hb dX12_named_113 (by decide +kernel) ?_
          exact RET (-1) _ _ _ _ _ ⟨rfl, hk4 _ ⟨0 + 1, (u_d_X12_named_4 ⟨f60, (Or.inl ⟨c61, rfl⟩)⟩)⟩, by omega⟩ hP hS dX12_named_114
        · have c61 : ¬ z53 ≤ z54 := mt (i_le (rb rz53 (by decide) (by decide)) (rb f60 (by decide) (by decide))).mpr c61
          refine lv_aload_n hx hb dX12_named_88 rfl (lv_at hl 2 rfl) ?_
          refine lv_aload_n hx hb dX12_named_89 rfl (lv_at hl 2 rfl) ?_
          refine va_get (D := (dC, dI)) (ci := 12) (v := .int (iI (A 0 47))) (C := RX12) (T := TX12) (N := 85) hx hb hts hiX12 hown hK hP 0 wm0 rfl 47 (by decide) (hts _ (List.mem_cons_of_mem _ (wl_in_1 _ (List.mem_of_getElem? (i := 12) rfl)))) (fun _ h9 => h9) rfl dX12_named_90 ?_
          refine lv_iload_n hx hb dX12_named_93 rfl (lv_at hl 3 rfl) ?_
          refine lv_iload hx hb dX12_named_94 (lv_at hl 0 rfl) ?_
          refine x_calll (As := [.int (iI (A 0 47)), .int (iI 3), .int (iI z54)]) (rest := []) ⟨hx, hb, hml, hown, hts⟩ (mc_X12_nameOf l dC dI cB cI cJ cZ cQ q _ (A 0 47) 3 z54 hI r_A_0_47 ⟨by decide, by decide⟩ (by omega) (by omega)) (cwV 3 hts (goodV (wl_in_1 _ (List.mem_of_getElem? (i := 17) rfl)) (wl_in_1 _ (List.mem_of_getElem? (i := 18) rfl)) (wl_in_1 _ (List.mem_of_getElem? (i := 19) rfl)) (wl_in_0 _ (List.mem_of_getElem? (i := 8) rfl)) (wl_in_1 _ (List.mem_of_getElem? (i := 20) rfl))) rfl rfl rfl (by decide +kernel) ⟨Nat.le_of_ble_eq_true rfl, Nat.le_of_ble_eq_true rfl⟩) hK hDD hA0 hP hS 0 12 wm0 rfl rfl hl.1 (Nat.le_of_ble_eq_true rfl) dX12_named_96 (fun z62 A63 H locs hw64 hP hS => ?_)
          obtain ⟨rfl, hw64⟩ := hw64
          have ghw64 : q_X12_nameOf (A 0 47) 3 z54 A z62 := hw64
          have hw64 := hw64.2
          refine lv_lload_n hx hb dX12_named_99 rfl (lv_at hl 4 rfl) ?_
          refine x_lcmp hx hb dX12_named_100 (by omega) (by omega) (fun z65 hz65 hz65b hz65c => ?_)
          have gz65 := Hd.mk (And.intro hz65 (And.intro hz65b hz65c))
          refine lv_if_ne (tgt := 107) hx hb dX12_named_101 (by decide) (fun c66 => ?_) (fun c66 => ?_)
          · have c66 : ¬ z65 = 0 := mt (i_eq0 (by omega)).mpr c66
            refine lv_iinc (v := iI (z54 + 1)) (lv' := [(5, .int (iI (z54 + 1))), (4, .int (iI z53)), (0, .ref (q 0)), (1, .int (iI 3)), (2, .long (jI x2))]) hx hb dX12_named_107 hl (k := 0) rfl (i_inc (by omega)) (by decide) rfl (fun ls hl => ?_)
            refine lv_goto (tgt := 81) hx hb dX12_named_110 (by decide) ?_
            exact ih57 _ (by omega) (z54 + 1) _ _ _ (by omega) (by omega) (fun zq ⟨mm4, hq⟩ => hk4 _ ⟨mm4 + 1, (u_d_X12_named_4 ⟨f60, (Or.inr ⟨c61, ⟨z62, ghw64, ⟨z65, gz65.out, (Or.inl ⟨c66, hq⟩)⟩⟩⟩)⟩)⟩) rfl hP hS (lv_sub hl [0, 1, 2, 3, 4] rfl)
          · have c66 : z65 = 0 := (i_eq0 (by omega)).mp c66
            refine lv_iload hx hb dX12_named_104 (lv_at hl 0 rfl) ?_
            exact RET z54 _ _ _ _ _ ⟨rfl, hk4 _ ⟨0 + 1, (u_d_X12_named_4 ⟨f60, (Or.inr ⟨c61, ⟨z62, ghw64, ⟨z65, gz65.out, (Or.inr ⟨c66, rfl⟩)⟩⟩⟩)⟩)⟩, by omega⟩ hP hS dX12_named_106
    exact L81_56 _ 0 _ _ _ (by omega) (by omega) (fun zq ⟨mm4, hq⟩ => (u_r_X12_named (Or.inr (Or.inr (Or.inr (Or.inl ⟨rfl, ⟨z53, gz53.out, ⟨mm4, hq⟩⟩⟩)))))) rfl hP hS (lv_sub hl [0, 1, 2, 3, 4] rfl)
  · have hl : lv_has ls 6 [(0, .ref (q 0)), (1, .int (iI 4)), (2, .long (jI x2))] := hl
    refine lv_iload_n hx hb dX12_named_0 rfl (lv_at hl 1 rfl) ?_
    refine lv_if_ne (tgt := 16) hx hb dX12_named_1 (by decide) (fun _ => ?_) (fun c67 => absurd c67 (by decide +kernel))
    refine lv_iload_n hx hb dX12_named_16 rfl (lv_at hl 1 rfl) ?_
    refine lv_iconst (v := iI 1) hx hb dX12_named_17 (by decide +kernel) ?_
    refine lv_icmp_ne (tgt := 33) hx hb dX12_named_18 (by decide) (fun _ => ?_) (fun c68 => absurd c68 (by decide +kernel))
    refine lv_iload_n hx hb dX12_named_33 rfl (lv_at hl 1 rfl) ?_
    refine lv_iconst (v := iI 2) hx hb dX12_named_34 (by decide +kernel) ?_
    refine lv_icmp_ne (tgt := 50) hx hb dX12_named_35 (by decide) (fun _ => ?_) (fun c69 => absurd c69 (by decide +kernel))
    refine lv_iload_n hx hb dX12_named_50 rfl (lv_at hl 1 rfl) ?_
    refine lv_iconst (v := iI 3) hx hb dX12_named_51 (by decide +kernel) ?_
    refine lv_icmp_ne (tgt := 67) hx hb dX12_named_52 (by decide) (fun _ => ?_) (fun c70 => absurd c70 (by decide +kernel))
    refine lv_aload_n hx hb dX12_named_67 rfl (lv_at hl 0 rfl) ?_
    refine va_get (D := (dC, dI)) (ci := 12) (v := .ref (q 19)) (C := RX12) (T := TX12) (N := 85) hx hb hts hiX12 hown hK hP 0 wm0 rfl 30 (by decide) (hts _ (List.mem_cons_of_mem _ (wl_in_1 _ (List.mem_of_getElem? (i := 16) rfl)))) (fun _ h9 => h9) rfl dX12_named_68 ?_
    refine lv_aload_n hx hb dX12_named_71 rfl (lv_at hl 0 rfl) ?_
    refine va_get (D := (dC, dI)) (ci := 12) (v := .int (iI (A 0 47))) (C := RX12) (T := TX12) (N := 85) hx hb hts hiX12 hown hK hP 0 wm0 rfl 47 (by decide) (hts _ (List.mem_cons_of_mem _ (wl_in_1 _ (List.mem_of_getElem? (i := 12) rfl)))) (fun _ h9 => h9) rfl dX12_named_72 ?_
    have r_A_0_47 : (0 : Int) ≤ (A 0 47) ∧ (A 0 47) ≤ 1 := hI 0 47
    refine x_iald hx hb hK hP 19 1 wm19 rfl (by omega) (by decide) dX12_named_75 (fun z71 hz71 => ?_)
    have rz71 : (0 : Int) ≤ z71 ∧ z71 ≤ 4 := by rw [hz71]; exact hI 19 _
    have gz71 := Hd.mk hz71
    have hz71 : z71 = A 19 ((A 0 47)).toNat := hz71
    refine lv_istore (lv' := [(4, .int (iI z71)), (0, .ref (q 0)), (1, .int (iI 4)), (2, .long (jI x2))]) hx hb dX12_named_76 hl (by decide) rfl (fun ls hl => ?_)
    refine lv_iconst (v := iI 0) hx hb dX12_named_78 (by decide +kernel) ?_
    refine lv_istore (lv' := [(5, .int (iI 0)), (4, .int (iI z71)), (0, .ref (q 0)), (1, .int (iI 4)), (2, .long (jI x2))]) hx hb dX12_named_79 hl (by decide) rfl (fun ls hl => ?_)
    have L81_74 : ∀ (n76 : Nat) (z72 : Int) (H : Heap) (locs : List Loc) (ls : Array Slot), (0 ≤ z72) → (0 ≤ z72 ∧ z72 ≤ 2147483647) → (∀ (z : Int), (∃ mm5 : Nat, (d_X12_named_5 x2 z71 A z mm5 z72)) → r_X12_named 4 x2 A z) → ((z71 - z72 + 1).toNat = n76) → va_P (dC, dI) vwCl (WM cI cJ cZ q A) H → va_S AS s.heap H locs → lv_has ls 6 [(5, .int (iI z72)), (4, .int (iI z71)), (0, .ref (q 0)), (1, .int (iI 4)), (2, .long (jI x2))] → W p l e (headSpec ws_mc_X12_named ({ frames := 1, cells := 0, slots := 0, locals := 23 } : Room)).room s m [.ref (q 0), .int (iI 4), .long (jI x2)].toArray below meth c H locs 0 0 Q (F0 m 81 ls []) := by
      intro n76
      induction n76 using Nat.strongRecOn with
      | ind n76 ih75 =>
        intro z72 H locs ls f77 f78 hk5 hn76 hP hS hl
        refine lv_iload hx hb dX12_named_81 (lv_at hl 0 rfl) ?_
        refine lv_iload hx hb dX12_named_83 (lv_at hl 1 rfl) ?_
        refine lv_icmp_ge (tgt := 113) hx hb dX12_named_85 (by decide) (fun c79 => ?_) (fun c79 => ?_)
        · have c79 : z71 ≤ z72 := (i_le (rb rz71 (by decide) (by decide)) (rb f78 (by decide) (by decide))).mp c79
          refine lv_iconst (v := iI (-1)) hx hb dX12_named_113 (by decide +kernel) ?_
          exact RET (-1) _ _ _ _ _ ⟨rfl, hk5 _ ⟨0 + 1, (u_d_X12_named_5 ⟨f78, (Or.inl ⟨c79, rfl⟩)⟩)⟩, by omega⟩ hP hS dX12_named_114
        · have c79 : ¬ z71 ≤ z72 := mt (i_le (rb rz71 (by decide) (by decide)) (rb f78 (by decide) (by decide))).mpr c79
          refine lv_aload_n hx hb dX12_named_88 rfl (lv_at hl 2 rfl) ?_
          refine lv_aload_n hx hb dX12_named_89 rfl (lv_at hl 2 rfl) ?_
          refine va_get (D := (dC, dI)) (ci := 12) (v := .int (iI (A 0 47))) (C := RX12) (T := TX12) (N := 85) hx hb hts hiX12 hown hK hP 0 wm0 rfl 47 (by decide) (hts _ (List.mem_cons_of_mem _ (wl_in_1 _ (List.mem_of_getElem? (i := 12) rfl)))) (fun _ h9 => h9) rfl dX12_named_90 ?_
          refine lv_iload_n hx hb dX12_named_93 rfl (lv_at hl 3 rfl) ?_
          refine lv_iload hx hb dX12_named_94 (lv_at hl 0 rfl) ?_
          refine x_calll (As := [.int (iI (A 0 47)), .int (iI 4), .int (iI z72)]) (rest := []) ⟨hx, hb, hml, hown, hts⟩ (mc_X12_nameOf l dC dI cB cI cJ cZ cQ q _ (A 0 47) 4 z72 hI r_A_0_47 ⟨by decide, by decide⟩ (by omega) (by omega)) (cwV 3 hts (goodV (wl_in_1 _ (List.mem_of_getElem? (i := 17) rfl)) (wl_in_1 _ (List.mem_of_getElem? (i := 18) rfl)) (wl_in_1 _ (List.mem_of_getElem? (i := 19) rfl)) (wl_in_0 _ (List.mem_of_getElem? (i := 8) rfl)) (wl_in_1 _ (List.mem_of_getElem? (i := 20) rfl))) rfl rfl rfl (by decide +kernel) ⟨Nat.le_of_ble_eq_true rfl, Nat.le_of_ble_eq_true rfl⟩) hK hDD hA0 hP hS 0 12 wm0 rfl rfl hl.1 (Nat.le_of_ble_eq_true rfl) dX12_named_96 (fun z80 A81 H locs hw82 hP hS => ?_)
          obtain ⟨rfl, hw82⟩ := hw82
          have ghw82 : q_X12_nameOf (A 0 47) 4 z72 A z80 := hw82
          have hw82 := hw82.2
          refine lv_lload_n hx hb dX12_named_99 rfl (lv_at hl 4 rfl) ?_
          refine x_lcmp hx hb dX12_named_100 (by omega) (by omega) (fun z83 hz83 hz83b hz83c => ?_)
          have gz83 := Hd.mk (And.intro hz83 (And.intro hz83b hz83c))
          refine lv_if_ne (tgt := 107) hx hb dX12_named_101 (by decide) (fun c84 => ?_) (fun c84 => ?_)
          · have c84 : ¬ z83 = 0 := mt (i_eq0 (by omega)).mpr c84
            refine lv_iinc (v := iI (z72 + 1)) (lv' := [(5, .int (iI (z72 + 1))), (4, .int (iI z71)), (0, .ref (q 0)), (1, .int (iI 4)), (2, .long (jI x2))]) hx hb dX12_named_107 hl (k := 0) rfl (i_inc (by omega)) (by decide) rfl (fun ls hl => ?_)
            refine lv_goto (tgt := 81) hx hb dX12_named_110 (by decide) ?_
            exact ih75 _ (by omega) (z72 + 1) _ _ _ (by omega) (by omega) (fun zq ⟨mm5, hq⟩ => hk5 _ ⟨mm5 + 1, (u_d_X12_named_5 ⟨f78, (Or.inr ⟨c79, ⟨z80, ghw82, ⟨z83, gz83.out, (Or.inl ⟨c84, hq⟩)⟩⟩⟩)⟩)⟩) rfl hP hS (lv_sub hl [0, 1, 2, 3, 4] rfl)
          · have c84 : z83 = 0 := (i_eq0 (by omega)).mp c84
            refine lv_iload hx hb dX12_named_104 (lv_at hl 0 rfl) ?_
            exact RET z72 _ _ _ _ _ ⟨rfl, hk5 _ ⟨0 + 1, (u_d_X12_named_5 ⟨f78, (Or.inr ⟨c79, ⟨z80, ghw82, ⟨z83, gz83.out, (Or.inr ⟨c84, rfl⟩)⟩⟩⟩)⟩)⟩, by omega⟩ hP hS dX12_named_106
    exact L81_74 _ 0 _ _ _ (by omega) (by omega) (fun zq ⟨mm5, hq⟩ => (u_r_X12_named (Or.inr (Or.inr (Or.inr (Or.inr ⟨rfl, ⟨z71, gz71.out, ⟨mm5, hq⟩⟩⟩)))))) rfl hP hS (lv_sub hl [0, 1, 2, 3, 4] rfl)
theorem dX12_counts_0 : decode cX12_counts 0 = .ok (.aload_n 0, 1) := by decide +kernel
theorem dX12_counts_1 : decode cX12_counts 1 = .ok (.getfield 36, 3) := by decide +kernel
theorem dX12_counts_4 : decode cX12_counts 4 = .ok (.ifCond .ne 16, 3) := by decide +kernel
theorem dX12_counts_7 : decode cX12_counts 7 = .ok (.iload_n 1, 1) := by decide +kernel
theorem dX12_counts_8 : decode cX12_counts 8 = .ok (.ifCond .eq 12, 3) := by decide +kernel
theorem dX12_counts_11 : decode cX12_counts 11 = .ok (.aload_n 0, 1) := by decide +kernel
theorem dX12_counts_12 : decode cX12_counts 12 = .ok (.iconst 5, 1) := by decide +kernel
theorem dX12_counts_13 : decode cX12_counts 13 = .ok (.aload_n 0, 1) := by decide +kernel
theorem dX12_counts_14 : decode cX12_counts 14 = .ok (.getfield 23, 3) := by decide +kernel
theorem dX12_counts_17 : decode cX12_counts 17 = .ok (.invokevirtual 286, 3) := by decide +kernel
theorem dX12_counts_20 : decode cX12_counts 20 = .ok (.aload_n 0, 1) := by decide +kernel
theorem dX12_counts_21 : decode cX12_counts 21 = .ok (.getfield 36, 3) := by decide +kernel
theorem dX12_counts_24 : decode cX12_counts 24 = .ok (.ifCond .ne 7, 3) := by decide +kernel
theorem dX12_counts_27 : decode cX12_counts 27 = .ok (.aload_n 0, 1) := by decide +kernel
theorem dX12_counts_28 : decode cX12_counts 28 = .ok (.invokevirtual 293, 3) := by decide +kernel
theorem dX12_counts_31 : decode cX12_counts 31 = .ok (.aload_n 0, 1) := by decide +kernel
theorem dX12_counts_32 : decode cX12_counts 32 = .ok (.getfield 36, 3) := by decide +kernel
theorem dX12_counts_35 : decode cX12_counts 35 = .ok (.ifCond .ne 7, 3) := by decide +kernel
theorem dX12_counts_38 : decode cX12_counts 38 = .ok (.iconst 1, 1) := by decide +kernel
theorem dX12_counts_39 : decode cX12_counts 39 = .ok (.goto 4, 3) := by decide +kernel
theorem dX12_counts_42 : decode cX12_counts 42 = .ok (.iconst 0, 1) := by decide +kernel
theorem dX12_counts_43 : decode cX12_counts 43 = .ok (.ireturn, 1) := by decide +kernel
theorem dX12_fresh_0 : decode cX12_fresh 0 = .ok (.aload_n 0, 1) := by decide +kernel
theorem dX12_fresh_1 : decode cX12_fresh 1 = .ok (.getfield 36, 3) := by decide +kernel
theorem dX12_fresh_4 : decode cX12_fresh 4 = .ok (.ifCond .le 5, 3) := by decide +kernel
theorem dX12_fresh_7 : decode cX12_fresh 7 = .ok (.lconst 0, 1) := by decide +kernel
theorem dX12_fresh_8 : decode cX12_fresh 8 = .ok (.lreturn, 1) := by decide +kernel
theorem dX12_fresh_9 : decode cX12_fresh 9 = .ok (.aload_n 0, 1) := by decide +kernel
theorem dX12_fresh_10 : decode cX12_fresh 10 = .ok (.getfield 20, 3) := by decide +kernel
theorem dX12_fresh_13 : decode cX12_fresh 13 = .ok (.iconst 1, 1) := by decide +kernel
theorem dX12_fresh_14 : decode cX12_fresh 14 = .ok (.if_icmp .ne 14, 3) := by decide +kernel
theorem dX12_fresh_17 : decode cX12_fresh 17 = .ok (.aload_n 0, 1) := by decide +kernel
theorem dX12_fresh_18 : decode cX12_fresh 18 = .ok (.aload_n 0, 1) := by decide +kernel
theorem dX12_fresh_19 : decode cX12_fresh 19 = .ok (.getfield 32, 3) := by decide +kernel
theorem dX12_fresh_22 : decode cX12_fresh 22 = .ok (.invokevirtual 387, 3) := by decide +kernel
theorem dX12_fresh_25 : decode cX12_fresh 25 = .ok (.ifCond .eq 12, 3) := by decide +kernel
theorem dX12_fresh_28 : decode cX12_fresh 28 = .ok (.aload_n 0, 1) := by decide +kernel
theorem dX12_fresh_29 : decode cX12_fresh 29 = .ok (.iconst 1, 1) := by decide +kernel
theorem dX12_fresh_30 : decode cX12_fresh 30 = .ok (.aload_n 0, 1) := by decide +kernel
theorem dX12_fresh_31 : decode cX12_fresh 31 = .ok (.getfield 23, 3) := by decide +kernel
theorem dX12_fresh_34 : decode cX12_fresh 34 = .ok (.invokevirtual 286, 3) := by decide +kernel
theorem dX12_fresh_37 : decode cX12_fresh 37 = .ok (.iconst 0, 1) := by decide +kernel
theorem dX12_fresh_38 : decode cX12_fresh 38 = .ok (.istore_n 1, 1) := by decide +kernel
theorem dX12_fresh_39 : decode cX12_fresh 39 = .ok (.iload_n 1, 1) := by decide +kernel
theorem dX12_fresh_40 : decode cX12_fresh 40 = .ok (.iconst 4, 1) := by decide +kernel
theorem dX12_fresh_41 : decode cX12_fresh 41 = .ok (.if_icmp .gt 38, 3) := by decide +kernel
theorem dX12_fresh_44 : decode cX12_fresh 44 = .ok (.aload_n 0, 1) := by decide +kernel
theorem dX12_fresh_45 : decode cX12_fresh 45 = .ok (.getfield 36, 3) := by decide +kernel
theorem dX12_fresh_48 : decode cX12_fresh 48 = .ok (.ifCond .ne 31, 3) := by decide +kernel
theorem dX12_fresh_51 : decode cX12_fresh 51 = .ok (.aload_n 0, 1) := by decide +kernel
theorem dX12_fresh_52 : decode cX12_fresh 52 = .ok (.iload_n 1, 1) := by decide +kernel
theorem dX12_fresh_53 : decode cX12_fresh 53 = .ok (.aload_n 0, 1) := by decide +kernel
theorem dX12_fresh_54 : decode cX12_fresh 54 = .ok (.getfield 32, 3) := by decide +kernel
theorem dX12_fresh_57 : decode cX12_fresh 57 = .ok (.invokevirtual 390, 3) := by decide +kernel
theorem dX12_fresh_60 : decode cX12_fresh 60 = .ok (.iconst (-1), 1) := by decide +kernel
theorem dX12_fresh_61 : decode cX12_fresh 61 = .ok (.if_icmp .eq 12, 3) := by decide +kernel
theorem dX12_fresh_64 : decode cX12_fresh 64 = .ok (.aload_n 0, 1) := by decide +kernel
theorem dX12_fresh_65 : decode cX12_fresh 65 = .ok (.iconst 2, 1) := by decide +kernel
theorem dX12_fresh_66 : decode cX12_fresh 66 = .ok (.aload_n 0, 1) := by decide +kernel
theorem dX12_fresh_67 : decode cX12_fresh 67 = .ok (.getfield 23, 3) := by decide +kernel
theorem dX12_fresh_70 : decode cX12_fresh 70 = .ok (.invokevirtual 286, 3) := by decide +kernel
theorem dX12_fresh_73 : decode cX12_fresh 73 = .ok (.iinc 1 1, 3) := by decide +kernel
theorem dX12_fresh_76 : decode cX12_fresh 76 = .ok (.goto (-37), 3) := by decide +kernel
theorem dX12_fresh_79 : decode cX12_fresh 79 = .ok (.aload_n 0, 1) := by decide +kernel
theorem dX12_fresh_80 : decode cX12_fresh 80 = .ok (.getfield 32, 3) := by decide +kernel
theorem dX12_fresh_83 : decode cX12_fresh 83 = .ok (.lstore_n 1, 1) := by decide +kernel
theorem dX12_fresh_84 : decode cX12_fresh 84 = .ok (.aload_n 0, 1) := by decide +kernel
theorem dX12_fresh_85 : decode cX12_fresh 85 = .ok (.getfield 36, 3) := by decide +kernel
theorem dX12_fresh_88 : decode cX12_fresh 88 = .ok (.ifCond .ne 7, 3) := by decide +kernel
theorem dX12_fresh_91 : decode cX12_fresh 91 = .ok (.aload_n 0, 1) := by decide +kernel
theorem dX12_fresh_92 : decode cX12_fresh 92 = .ok (.invokevirtual 293, 3) := by decide +kernel
theorem dX12_fresh_95 : decode cX12_fresh 95 = .ok (.lload_n 1, 1) := by decide +kernel
theorem dX12_fresh_96 : decode cX12_fresh 96 = .ok (.lreturn, 1) := by decide +kernel
theorem dX12_asked_0 : decode cX12_asked 0 = .ok (.aload_n 0, 1) := by decide +kernel
theorem dX12_asked_1 : decode cX12_asked 1 = .ok (.getfield 36, 3) := by decide +kernel
theorem dX12_asked_4 : decode cX12_asked 4 = .ok (.ifCond .le 5, 3) := by decide +kernel
theorem dX12_asked_7 : decode cX12_asked 7 = .ok (.iconst 0, 1) := by decide +kernel
theorem dX12_asked_8 : decode cX12_asked 8 = .ok (.ireturn, 1) := by decide +kernel
theorem dX12_asked_9 : decode cX12_asked 9 = .ok (.aload_n 0, 1) := by decide +kernel
theorem dX12_asked_10 : decode cX12_asked 10 = .ok (.getfield 20, 3) := by decide +kernel
theorem dX12_asked_13 : decode cX12_asked 13 = .ok (.iconst 1, 1) := by decide +kernel
theorem dX12_asked_14 : decode cX12_asked 14 = .ok (.if_icmp .ne 14, 3) := by decide +kernel
theorem dX12_asked_17 : decode cX12_asked 17 = .ok (.aload_n 0, 1) := by decide +kernel
theorem dX12_asked_18 : decode cX12_asked 18 = .ok (.aload_n 0, 1) := by decide +kernel
theorem dX12_asked_19 : decode cX12_asked 19 = .ok (.getfield 32, 3) := by decide +kernel
theorem dX12_asked_22 : decode cX12_asked 22 = .ok (.invokevirtual 387, 3) := by decide +kernel
theorem dX12_asked_25 : decode cX12_asked 25 = .ok (.ifCond .eq 12, 3) := by decide +kernel
theorem dX12_asked_28 : decode cX12_asked 28 = .ok (.aload_n 0, 1) := by decide +kernel
theorem dX12_asked_29 : decode cX12_asked 29 = .ok (.iconst 1, 1) := by decide +kernel
theorem dX12_asked_30 : decode cX12_asked 30 = .ok (.aload_n 0, 1) := by decide +kernel
theorem dX12_asked_31 : decode cX12_asked 31 = .ok (.getfield 23, 3) := by decide +kernel
theorem dX12_asked_34 : decode cX12_asked 34 = .ok (.invokevirtual 286, 3) := by decide +kernel
theorem dX12_asked_37 : decode cX12_asked 37 = .ok (.aload_n 0, 1) := by decide +kernel
theorem dX12_asked_38 : decode cX12_asked 38 = .ok (.getfield 36, 3) := by decide +kernel
theorem dX12_asked_41 : decode cX12_asked 41 = .ok (.ifCond .le 7, 3) := by decide +kernel
theorem dX12_asked_44 : decode cX12_asked 44 = .ok (.iconst 0, 1) := by decide +kernel
theorem dX12_asked_45 : decode cX12_asked 45 = .ok (.goto 12, 3) := by decide +kernel
theorem dX12_asked_48 : decode cX12_asked 48 = .ok (.aload_n 0, 1) := by decide +kernel
theorem dX12_asked_49 : decode cX12_asked 49 = .ok (.iload_n 1, 1) := by decide +kernel
theorem dX12_asked_50 : decode cX12_asked 50 = .ok (.aload_n 0, 1) := by decide +kernel
theorem dX12_asked_51 : decode cX12_asked 51 = .ok (.getfield 32, 3) := by decide +kernel
theorem dX12_asked_54 : decode cX12_asked 54 = .ok (.invokevirtual 390, 3) := by decide +kernel
theorem dX12_asked_57 : decode cX12_asked 57 = .ok (.istore_n 2, 1) := by decide +kernel
theorem dX12_asked_58 : decode cX12_asked 58 = .ok (.aload_n 0, 1) := by decide +kernel
theorem dX12_asked_59 : decode cX12_asked 59 = .ok (.getfield 36, 3) := by decide +kernel
theorem dX12_asked_62 : decode cX12_asked 62 = .ok (.ifCond .ne 17, 3) := by decide +kernel
theorem dX12_asked_65 : decode cX12_asked 65 = .ok (.iload_n 2, 1) := by decide +kernel
theorem dX12_asked_66 : decode cX12_asked 66 = .ok (.iconst (-1), 1) := by decide +kernel
theorem dX12_asked_67 : decode cX12_asked 67 = .ok (.if_icmp .ne 12, 3) := by decide +kernel
theorem dX12_asked_70 : decode cX12_asked 70 = .ok (.aload_n 0, 1) := by decide +kernel
theorem dX12_asked_71 : decode cX12_asked 71 = .ok (.iconst 3, 1) := by decide +kernel
theorem dX12_asked_72 : decode cX12_asked 72 = .ok (.aload_n 0, 1) := by decide +kernel
theorem dX12_asked_73 : decode cX12_asked 73 = .ok (.getfield 23, 3) := by decide +kernel
theorem dX12_asked_76 : decode cX12_asked 76 = .ok (.invokevirtual 286, 3) := by decide +kernel
theorem dX12_asked_79 : decode cX12_asked 79 = .ok (.aload_n 0, 1) := by decide +kernel
theorem dX12_asked_80 : decode cX12_asked 80 = .ok (.getfield 36, 3) := by decide +kernel
theorem dX12_asked_83 : decode cX12_asked 83 = .ok (.ifCond .ne 7, 3) := by decide +kernel
theorem dX12_asked_86 : decode cX12_asked 86 = .ok (.aload_n 0, 1) := by decide +kernel
theorem dX12_asked_87 : decode cX12_asked 87 = .ok (.invokevirtual 293, 3) := by decide +kernel
theorem dX12_asked_90 : decode cX12_asked 90 = .ok (.aload_n 0, 1) := by decide +kernel
theorem dX12_asked_91 : decode cX12_asked 91 = .ok (.getfield 36, 3) := by decide +kernel
theorem dX12_asked_94 : decode cX12_asked 94 = .ok (.ifCond .le 7, 3) := by decide +kernel
theorem dX12_asked_97 : decode cX12_asked 97 = .ok (.iconst 0, 1) := by decide +kernel
theorem dX12_asked_98 : decode cX12_asked 98 = .ok (.goto 4, 3) := by decide +kernel
theorem dX12_asked_101 : decode cX12_asked 101 = .ok (.iload_n 2, 1) := by decide +kernel
theorem dX12_asked_102 : decode cX12_asked 102 = .ok (.ireturn, 1) := by decide +kernel
theorem dX12_bars_0 : decode cX12_bars 0 = .ok (.aload_n 0, 1) := by decide +kernel
theorem dX12_bars_1 : decode cX12_bars 1 = .ok (.getfield 36, 3) := by decide +kernel
theorem dX12_bars_4 : decode cX12_bars 4 = .ok (.ifCond .ne 49, 3) := by decide +kernel
theorem dX12_bars_7 : decode cX12_bars 7 = .ok (.aload_n 0, 1) := by decide +kernel
theorem dX12_bars_8 : decode cX12_bars 8 = .ok (.getfield 20, 3) := by decide +kernel
theorem dX12_bars_11 : decode cX12_bars 11 = .ok (.iconst 1, 1) := by decide +kernel
theorem dX12_bars_12 : decode cX12_bars 12 = .ok (.if_icmp .ne 41, 3) := by decide +kernel
theorem dX12_bars_15 : decode cX12_bars 15 = .ok (.aload_n 0, 1) := by decide +kernel
theorem dX12_bars_16 : decode cX12_bars 16 = .ok (.aload_n 0, 1) := by decide +kernel
theorem dX12_bars_17 : decode cX12_bars 17 = .ok (.getfield 32, 3) := by decide +kernel
theorem dX12_bars_20 : decode cX12_bars 20 = .ok (.invokevirtual 387, 3) := by decide +kernel
theorem dX12_bars_23 : decode cX12_bars 23 = .ok (.ifCond .ne 30, 3) := by decide +kernel
theorem dX12_bars_26 : decode cX12_bars 26 = .ok (.iload_n 2, 1) := by decide +kernel
theorem dX12_bars_27 : decode cX12_bars 27 = .ok (.iconst (-1), 1) := by decide +kernel
theorem dX12_bars_28 : decode cX12_bars 28 = .ok (.if_icmp .eq 25, 3) := by decide +kernel
theorem dX12_bars_31 : decode cX12_bars 31 = .ok (.aload_n 0, 1) := by decide +kernel
theorem dX12_bars_32 : decode cX12_bars 32 = .ok (.iload_n 1, 1) := by decide +kernel
theorem dX12_bars_33 : decode cX12_bars 33 = .ok (.aload_n 0, 1) := by decide +kernel
theorem dX12_bars_34 : decode cX12_bars 34 = .ok (.getfield 32, 3) := by decide +kernel
theorem dX12_bars_37 : decode cX12_bars 37 = .ok (.invokevirtual 390, 3) := by decide +kernel
theorem dX12_bars_40 : decode cX12_bars 40 = .ok (.iload_n 2, 1) := by decide +kernel
theorem dX12_bars_41 : decode cX12_bars 41 = .ok (.if_icmp .ne 12, 3) := by decide +kernel
theorem dX12_bars_44 : decode cX12_bars 44 = .ok (.aload_n 0, 1) := by decide +kernel
theorem dX12_bars_45 : decode cX12_bars 45 = .ok (.iconst 3, 1) := by decide +kernel
theorem dX12_bars_46 : decode cX12_bars 46 = .ok (.aload_n 0, 1) := by decide +kernel
theorem dX12_bars_47 : decode cX12_bars 47 = .ok (.getfield 23, 3) := by decide +kernel
theorem dX12_bars_50 : decode cX12_bars 50 = .ok (.invokevirtual 286, 3) := by decide +kernel
theorem dX12_bars_53 : decode cX12_bars 53 = .ok (.return_, 1) := by decide +kernel
theorem dX12_place_0 : decode cX12_place 0 = .ok (.aload_n 0, 1) := by decide +kernel
theorem dX12_place_1 : decode cX12_place 1 = .ok (.aload_n 0, 1) := by decide +kernel
theorem dX12_place_2 : decode cX12_place 2 = .ok (.getfield 51, 3) := by decide +kernel
theorem dX12_place_5 : decode cX12_place 5 = .ok (.aload_n 0, 1) := by decide +kernel
theorem dX12_place_6 : decode cX12_place 6 = .ok (.getfield 155, 3) := by decide +kernel
theorem dX12_place_9 : decode cX12_place 9 = .ok (.iaload, 1) := by decide +kernel
theorem dX12_place_10 : decode cX12_place 10 = .ok (.bipush 8, 2) := by decide +kernel
theorem dX12_place_12 : decode cX12_place 12 = .ok (.if_icmp .ne 7, 3) := by decide +kernel
theorem dX12_place_15 : decode cX12_place 15 = .ok (.iconst 1, 1) := by decide +kernel
theorem dX12_place_16 : decode cX12_place 16 = .ok (.goto 4, 3) := by decide +kernel
theorem dX12_place_19 : decode cX12_place 19 = .ok (.iconst 0, 1) := by decide +kernel
theorem dX12_place_20 : decode cX12_place 20 = .ok (.invokevirtual 394, 3) := by decide +kernel
theorem dX12_place_23 : decode cX12_place 23 = .ok (.ifCond .ne 4, 3) := by decide +kernel
theorem dX12_place_26 : decode cX12_place 26 = .ok (.return_, 1) := by decide +kernel
theorem dX12_place_27 : decode cX12_place 27 = .ok (.aload_n 0, 1) := by decide +kernel
theorem dX12_place_28 : decode cX12_place 28 = .ok (.getfield 54, 3) := by decide +kernel
theorem dX12_place_31 : decode cX12_place 31 = .ok (.bipush 8, 2) := by decide +kernel
theorem dX12_place_33 : decode cX12_place 33 = .ok (.aload_n 0, 1) := by decide +kernel
theorem dX12_place_34 : decode cX12_place 34 = .ok (.getfield 155, 3) := by decide +kernel
theorem dX12_place_37 : decode cX12_place 37 = .ok (.imul, 1) := by decide +kernel
theorem dX12_place_38 : decode cX12_place 38 = .ok (.aload_n 0, 1) := by decide +kernel
theorem dX12_place_39 : decode cX12_place 39 = .ok (.getfield 51, 3) := by decide +kernel
theorem dX12_place_42 : decode cX12_place 42 = .ok (.aload_n 0, 1) := by decide +kernel
theorem dX12_place_43 : decode cX12_place 43 = .ok (.getfield 155, 3) := by decide +kernel
theorem dX12_place_46 : decode cX12_place 46 = .ok (.iaload, 1) := by decide +kernel
theorem dX12_place_47 : decode cX12_place 47 = .ok (.iadd, 1) := by decide +kernel
theorem dX12_place_48 : decode cX12_place 48 = .ok (.aload_n 0, 1) := by decide +kernel
theorem dX12_place_49 : decode cX12_place 49 = .ok (.invokevirtual 398, 3) := by decide +kernel
theorem dX12_place_52 : decode cX12_place 52 = .ok (.lastore, 1) := by decide +kernel
theorem dX12_place_53 : decode cX12_place 53 = .ok (.aload_n 0, 1) := by decide +kernel
theorem dX12_place_54 : decode cX12_place 54 = .ok (.getfield 36, 3) := by decide +kernel
theorem dX12_place_57 : decode cX12_place 57 = .ok (.ifCond .ne 16, 3) := by decide +kernel
theorem dX12_place_60 : decode cX12_place 60 = .ok (.aload_n 0, 1) := by decide +kernel
theorem dX12_place_61 : decode cX12_place 61 = .ok (.getfield 51, 3) := by decide +kernel
theorem dX12_place_64 : decode cX12_place 64 = .ok (.aload_n 0, 1) := by decide +kernel
theorem dX12_place_65 : decode cX12_place 65 = .ok (.getfield 155, 3) := by decide +kernel
theorem dX12_place_68 : decode cX12_place 68 = .ok (.dup2, 1) := by decide +kernel
theorem dX12_place_69 : decode cX12_place 69 = .ok (.iaload, 1) := by decide +kernel
theorem dX12_place_70 : decode cX12_place 70 = .ok (.iconst 1, 1) := by decide +kernel
theorem dX12_place_71 : decode cX12_place 71 = .ok (.iadd, 1) := by decide +kernel
theorem dX12_place_72 : decode cX12_place 72 = .ok (.iastore, 1) := by decide +kernel
theorem dX12_place_73 : decode cX12_place 73 = .ok (.return_, 1) := by decide +kernel
theorem dX12_within_0 : decode cX12_within 0 = .ok (.aload_n 0, 1) := by decide +kernel
theorem dX12_within_1 : decode cX12_within 1 = .ok (.ldc2_w 306, 3) := by decide +kernel
theorem dX12_within_4 : decode cX12_within 4 = .ok (.invokevirtual 402, 3) := by decide +kernel
theorem dX12_within_7 : decode cX12_within 7 = .ok (.aload_n 0, 1) := by decide +kernel
theorem dX12_within_8 : decode cX12_within 8 = .ok (.getfield 36, 3) := by decide +kernel
theorem dX12_within_11 : decode cX12_within 11 = .ok (.ifCond .le 5, 3) := by decide +kernel
theorem dX12_within_14 : decode cX12_within 14 = .ok (.iconst 0, 1) := by decide +kernel
theorem dX12_within_15 : decode cX12_within 15 = .ok (.ireturn, 1) := by decide +kernel
theorem dX12_within_16 : decode cX12_within 16 = .ok (.aload_n 0, 1) := by decide +kernel
theorem dX12_within_17 : decode cX12_within 17 = .ok (.getfield 20, 3) := by decide +kernel
theorem dX12_within_20 : decode cX12_within 20 = .ok (.iconst 1, 1) := by decide +kernel
theorem dX12_within_21 : decode cX12_within 21 = .ok (.if_icmp .ne 26, 3) := by decide +kernel
theorem dX12_within_24 : decode cX12_within 24 = .ok (.aload_n 0, 1) := by decide +kernel
theorem dX12_within_25 : decode cX12_within 25 = .ok (.aload_n 0, 1) := by decide +kernel
theorem dX12_within_26 : decode cX12_within 26 = .ok (.getfield 32, 3) := by decide +kernel
theorem dX12_within_29 : decode cX12_within 29 = .ok (.invokevirtual 387, 3) := by decide +kernel
theorem dX12_within_32 : decode cX12_within 32 = .ok (.ifCond .ne 15, 3) := by decide +kernel
theorem dX12_within_35 : decode cX12_within 35 = .ok (.aload_n 0, 1) := by decide +kernel
theorem dX12_within_36 : decode cX12_within 36 = .ok (.iconst 1, 1) := by decide +kernel
theorem dX12_within_37 : decode cX12_within 37 = .ok (.aload_n 0, 1) := by decide +kernel
theorem dX12_within_38 : decode cX12_within 38 = .ok (.getfield 32, 3) := by decide +kernel
theorem dX12_within_41 : decode cX12_within 41 = .ok (.invokevirtual 390, 3) := by decide +kernel
theorem dX12_within_44 : decode cX12_within 44 = .ok (.goto 4, 3) := by decide +kernel
theorem dX12_within_47 : decode cX12_within 47 = .ok (.iconst (-1), 1) := by decide +kernel
theorem dX12_within_48 : decode cX12_within 48 = .ok (.istore_n 1, 1) := by decide +kernel
theorem dX12_within_49 : decode cX12_within 49 = .ok (.iload_n 1, 1) := by decide +kernel
theorem dX12_within_50 : decode cX12_within 50 = .ok (.iconst (-1), 1) := by decide +kernel
theorem dX12_within_51 : decode cX12_within 51 = .ok (.if_icmp .eq 20, 3) := by decide +kernel
theorem dX12_within_54 : decode cX12_within 54 = .ok (.aload_n 0, 1) := by decide +kernel
theorem dX12_within_55 : decode cX12_within 55 = .ok (.getfield 70, 3) := by decide +kernel
theorem dX12_within_58 : decode cX12_within 58 = .ok (.bipush 10, 2) := by decide +kernel
theorem dX12_within_60 : decode cX12_within 60 = .ok (.aload_n 0, 1) := by decide +kernel
theorem dX12_within_61 : decode cX12_within 61 = .ok (.getfield 155, 3) := by decide +kernel
theorem dX12_within_64 : decode cX12_within 64 = .ok (.imul, 1) := by decide +kernel
theorem dX12_within_65 : decode cX12_within 65 = .ok (.iload_n 1, 1) := by decide +kernel
theorem dX12_within_66 : decode cX12_within 66 = .ok (.iadd, 1) := by decide +kernel
theorem dX12_within_67 : decode cX12_within 67 = .ok (.baload, 1) := by decide +kernel
theorem dX12_within_68 : decode cX12_within 68 = .ok (.ifCond .ne 12, 3) := by decide +kernel
theorem dX12_within_71 : decode cX12_within 71 = .ok (.bipush 10, 2) := by decide +kernel
theorem dX12_within_73 : decode cX12_within 73 = .ok (.aload_n 0, 1) := by decide +kernel
theorem dX12_within_74 : decode cX12_within 74 = .ok (.iconst 0, 1) := by decide +kernel
theorem dX12_within_75 : decode cX12_within 75 = .ok (.invokevirtual 406, 3) := by decide +kernel
theorem dX12_within_78 : decode cX12_within 78 = .ok (.iadd, 1) := by decide +kernel
theorem dX12_within_79 : decode cX12_within 79 = .ok (.ireturn, 1) := by decide +kernel
theorem dX12_within_80 : decode cX12_within 80 = .ok (.aload_n 0, 1) := by decide +kernel
theorem dX12_within_81 : decode cX12_within 81 = .ok (.invokevirtual 293, 3) := by decide +kernel
theorem dX12_within_84 : decode cX12_within 84 = .ok (.bipush 20, 2) := by decide +kernel
theorem dX12_within_86 : decode cX12_within 86 = .ok (.iload_n 1, 1) := by decide +kernel
theorem dX12_within_87 : decode cX12_within 87 = .ok (.iadd, 1) := by decide +kernel
theorem dX12_within_88 : decode cX12_within 88 = .ok (.ireturn, 1) := by decide +kernel
