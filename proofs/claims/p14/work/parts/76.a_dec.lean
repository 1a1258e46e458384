theorem dX12_operand_0 : decode cX12_operand 0 = .ok (.aload_n 0, 1) := by decide +kernel
theorem dX12_operand_1 : decode cX12_operand 1 = .ok (.getfield 173, 3) := by decide +kernel
theorem dX12_operand_4 : decode cX12_operand 4 = .ok (.iconst 1, 1) := by decide +kernel
theorem dX12_operand_5 : decode cX12_operand 5 = .ok (.isub, 1) := by decide +kernel
theorem dX12_operand_6 : decode cX12_operand 6 = .ok (.istore_n 1, 1) := by decide +kernel
theorem dX12_operand_7 : decode cX12_operand 7 = .ok (.aload_n 0, 1) := by decide +kernel
theorem dX12_operand_8 : decode cX12_operand 8 = .ok (.getfield 158, 3) := by decide +kernel
theorem dX12_operand_11 : decode cX12_operand 11 = .ok (.iload_n 1, 1) := by decide +kernel
theorem dX12_operand_12 : decode cX12_operand 12 = .ok (.iaload, 1) := by decide +kernel
theorem dX12_operand_13 : decode cX12_operand 13 = .ok (.invokestatic 365, 3) := by decide +kernel
theorem dX12_operand_16 : decode cX12_operand 16 = .ok (.ifCond .eq 16, 3) := by decide +kernel
theorem dX12_operand_19 : decode cX12_operand 19 = .ok (.aload_n 0, 1) := by decide +kernel
theorem dX12_operand_20 : decode cX12_operand 20 = .ok (.getfield 164, 3) := by decide +kernel
theorem dX12_operand_23 : decode cX12_operand 23 = .ok (.iload_n 1, 1) := by decide +kernel
theorem dX12_operand_24 : decode cX12_operand 24 = .ok (.baload, 1) := by decide +kernel
theorem dX12_operand_25 : decode cX12_operand 25 = .ok (.ifCond .eq 7, 3) := by decide +kernel
theorem dX12_operand_28 : decode cX12_operand 28 = .ok (.iconst 1, 1) := by decide +kernel
theorem dX12_operand_29 : decode cX12_operand 29 = .ok (.goto 4, 3) := by decide +kernel
theorem dX12_operand_32 : decode cX12_operand 32 = .ok (.iconst 0, 1) := by decide +kernel
theorem dX12_operand_33 : decode cX12_operand 33 = .ok (.istore_n 2, 1) := by decide +kernel
theorem dX12_operand_34 : decode cX12_operand 34 = .ok (.iload_n 2, 1) := by decide +kernel
theorem dX12_operand_35 : decode cX12_operand 35 = .ok (.ifCond .eq 25, 3) := by decide +kernel
theorem dX12_operand_38 : decode cX12_operand 38 = .ok (.aload_n 0, 1) := by decide +kernel
theorem dX12_operand_39 : decode cX12_operand 39 = .ok (.ldc2_w 332, 3) := by decide +kernel
theorem dX12_operand_42 : decode cX12_operand 42 = .ok (.invokevirtual 368, 3) := by decide +kernel
theorem dX12_operand_45 : decode cX12_operand 45 = .ok (.ifCond .eq 15, 3) := by decide +kernel
theorem dX12_operand_48 : decode cX12_operand 48 = .ok (.aload_n 0, 1) := by decide +kernel
theorem dX12_operand_49 : decode cX12_operand 49 = .ok (.bipush 22, 2) := by decide +kernel
theorem dX12_operand_51 : decode cX12_operand 51 = .ok (.invokevirtual 372, 3) := by decide +kernel
theorem dX12_operand_54 : decode cX12_operand 54 = .ok (.aload_n 0, 1) := by decide +kernel
theorem dX12_operand_55 : decode cX12_operand 55 = .ok (.invokevirtual 293, 3) := by decide +kernel
theorem dX12_operand_58 : decode cX12_operand 58 = .ok (.iconst 0, 1) := by decide +kernel
theorem dX12_operand_59 : decode cX12_operand 59 = .ok (.ireturn, 1) := by decide +kernel
theorem dX12_operand_60 : decode cX12_operand 60 = .ok (.aload_n 0, 1) := by decide +kernel
theorem dX12_operand_61 : decode cX12_operand 61 = .ok (.getfield 164, 3) := by decide +kernel
theorem dX12_operand_64 : decode cX12_operand 64 = .ok (.iload_n 1, 1) := by decide +kernel
theorem dX12_operand_65 : decode cX12_operand 65 = .ok (.iconst 0, 1) := by decide +kernel
theorem dX12_operand_66 : decode cX12_operand 66 = .ok (.bastore, 1) := by decide +kernel
theorem dX12_operand_67 : decode cX12_operand 67 = .ok (.iload_n 2, 1) := by decide +kernel
theorem dX12_operand_68 : decode cX12_operand 68 = .ok (.ifCond .eq 19, 3) := by decide +kernel
theorem dX12_operand_71 : decode cX12_operand 71 = .ok (.aload_n 0, 1) := by decide +kernel
theorem dX12_operand_72 : decode cX12_operand 72 = .ok (.bipush 91, 2) := by decide +kernel
theorem dX12_operand_74 : decode cX12_operand 74 = .ok (.invokevirtual 290, 3) := by decide +kernel
theorem dX12_operand_77 : decode cX12_operand 77 = .ok (.ifCond .eq 10, 3) := by decide +kernel
theorem dX12_operand_80 : decode cX12_operand 80 = .ok (.aload_n 0, 1) := by decide +kernel
theorem dX12_operand_81 : decode cX12_operand 81 = .ok (.iconst 5, 1) := by decide +kernel
theorem dX12_operand_82 : decode cX12_operand 82 = .ok (.invokevirtual 375, 3) := by decide +kernel
theorem dX12_operand_85 : decode cX12_operand 85 = .ok (.iconst 0, 1) := by decide +kernel
theorem dX12_operand_86 : decode cX12_operand 86 = .ok (.ireturn, 1) := by decide +kernel
theorem dX12_operand_87 : decode cX12_operand 87 = .ok (.iload_n 2, 1) := by decide +kernel
theorem dX12_operand_88 : decode cX12_operand 88 = .ok (.ifCond .eq 33, 3) := by decide +kernel
theorem dX12_operand_91 : decode cX12_operand 91 = .ok (.aload_n 0, 1) := by decide +kernel
theorem dX12_operand_92 : decode cX12_operand 92 = .ok (.ldc2_w 334, 3) := by decide +kernel
theorem dX12_operand_95 : decode cX12_operand 95 = .ok (.invokevirtual 368, 3) := by decide +kernel
theorem dX12_operand_98 : decode cX12_operand 98 = .ok (.ifCond .eq 23, 3) := by decide +kernel
theorem dX12_operand_101 : decode cX12_operand 101 = .ok (.aload_n 0, 1) := by decide +kernel
theorem dX12_operand_102 : decode cX12_operand 102 = .ok (.bipush 9, 2) := by decide +kernel
theorem dX12_operand_104 : decode cX12_operand 104 = .ok (.iconst 0, 1) := by decide +kernel
theorem dX12_operand_105 : decode cX12_operand 105 = .ok (.invokevirtual 359, 3) := by decide +kernel
theorem dX12_operand_108 : decode cX12_operand 108 = .ok (.aload_n 0, 1) := by decide +kernel
theorem dX12_operand_109 : decode cX12_operand 109 = .ok (.getfield 161, 3) := by decide +kernel
theorem dX12_operand_112 : decode cX12_operand 112 = .ok (.iload_n 1, 1) := by decide +kernel
theorem dX12_operand_113 : decode cX12_operand 113 = .ok (.iconst 2, 1) := by decide +kernel
theorem dX12_operand_114 : decode cX12_operand 114 = .ok (.iastore, 1) := by decide +kernel
theorem dX12_operand_115 : decode cX12_operand 115 = .ok (.aload_n 0, 1) := by decide +kernel
theorem dX12_operand_116 : decode cX12_operand 116 = .ok (.invokevirtual 293, 3) := by decide +kernel
theorem dX12_operand_119 : decode cX12_operand 119 = .ok (.iconst 1, 1) := by decide +kernel
theorem dX12_operand_120 : decode cX12_operand 120 = .ok (.ireturn, 1) := by decide +kernel
theorem dX12_operand_121 : decode cX12_operand 121 = .ok (.aload_n 0, 1) := by decide +kernel
theorem dX12_operand_122 : decode cX12_operand 122 = .ok (.bipush 40, 2) := by decide +kernel
theorem dX12_operand_124 : decode cX12_operand 124 = .ok (.invokevirtual 290, 3) := by decide +kernel
theorem dX12_operand_127 : decode cX12_operand 127 = .ok (.ifCond .eq 10, 3) := by decide +kernel
theorem dX12_operand_130 : decode cX12_operand 130 = .ok (.aload_n 0, 1) := by decide +kernel
theorem dX12_operand_131 : decode cX12_operand 131 = .ok (.iconst 2, 1) := by decide +kernel
theorem dX12_operand_132 : decode cX12_operand 132 = .ok (.invokevirtual 375, 3) := by decide +kernel
theorem dX12_operand_135 : decode cX12_operand 135 = .ok (.iconst 0, 1) := by decide +kernel
theorem dX12_operand_136 : decode cX12_operand 136 = .ok (.ireturn, 1) := by decide +kernel
theorem dX12_operand_137 : decode cX12_operand 137 = .ok (.aload_n 0, 1) := by decide +kernel
theorem dX12_operand_138 : decode cX12_operand 138 = .ok (.ldc2_w 344, 3) := by decide +kernel
theorem dX12_operand_141 : decode cX12_operand 141 = .ok (.invokevirtual 368, 3) := by decide +kernel
theorem dX12_operand_144 : decode cX12_operand 144 = .ok (.ifCond .ne 13, 3) := by decide +kernel
theorem dX12_operand_147 : decode cX12_operand 147 = .ok (.aload_n 0, 1) := by decide +kernel
theorem dX12_operand_148 : decode cX12_operand 148 = .ok (.ldc2_w 346, 3) := by decide +kernel
theorem dX12_operand_151 : decode cX12_operand 151 = .ok (.invokevirtual 368, 3) := by decide +kernel
theorem dX12_operand_154 : decode cX12_operand 154 = .ok (.ifCond .eq 69, 3) := by decide +kernel
theorem dX12_operand_157 : decode cX12_operand 157 = .ok (.aload_n 0, 1) := by decide +kernel
theorem dX12_operand_158 : decode cX12_operand 158 = .ok (.ldc2_w 344, 3) := by decide +kernel
theorem dX12_operand_161 : decode cX12_operand 161 = .ok (.invokevirtual 368, 3) := by decide +kernel
theorem dX12_operand_164 : decode cX12_operand 164 = .ok (.ifCond .eq 8, 3) := by decide +kernel
theorem dX12_operand_167 : decode cX12_operand 167 = .ok (.bipush 15, 2) := by decide +kernel
theorem dX12_operand_169 : decode cX12_operand 169 = .ok (.goto 5, 3) := by decide +kernel
theorem dX12_operand_172 : decode cX12_operand 172 = .ok (.bipush 16, 2) := by decide +kernel
theorem dX12_operand_174 : decode cX12_operand 174 = .ok (.istore_n 3, 1) := by decide +kernel
theorem dX12_operand_175 : decode cX12_operand 175 = .ok (.aload_n 0, 1) := by decide +kernel
theorem dX12_operand_176 : decode cX12_operand 176 = .ok (.invokevirtual 293, 3) := by decide +kernel
theorem dX12_operand_179 : decode cX12_operand 179 = .ok (.aload_n 0, 1) := by decide +kernel
theorem dX12_operand_180 : decode cX12_operand 180 = .ok (.bipush 40, 2) := by decide +kernel
theorem dX12_operand_182 : decode cX12_operand 182 = .ok (.invokevirtual 290, 3) := by decide +kernel
theorem dX12_operand_185 : decode cX12_operand 185 = .ok (.ifCond .ne 12, 3) := by decide +kernel
theorem dX12_operand_188 : decode cX12_operand 188 = .ok (.aload_n 0, 1) := by decide +kernel
theorem dX12_operand_189 : decode cX12_operand 189 = .ok (.iconst 1, 1) := by decide +kernel
theorem dX12_operand_190 : decode cX12_operand 190 = .ok (.aload_n 0, 1) := by decide +kernel
theorem dX12_operand_191 : decode cX12_operand 191 = .ok (.getfield 23, 3) := by decide +kernel
theorem dX12_operand_194 : decode cX12_operand 194 = .ok (.invokevirtual 286, 3) := by decide +kernel
theorem dX12_operand_197 : decode cX12_operand 197 = .ok (.aload_n 0, 1) := by decide +kernel
theorem dX12_operand_198 : decode cX12_operand 198 = .ok (.iconst 3, 1) := by decide +kernel
theorem dX12_operand_199 : decode cX12_operand 199 = .ok (.invokevirtual 375, 3) := by decide +kernel
theorem dX12_operand_202 : decode cX12_operand 202 = .ok (.aload_n 0, 1) := by decide +kernel
theorem dX12_operand_203 : decode cX12_operand 203 = .ok (.getfield 36, 3) := by decide +kernel
theorem dX12_operand_206 : decode cX12_operand 206 = .ok (.ifCond .ne 15, 3) := by decide +kernel
theorem dX12_operand_209 : decode cX12_operand 209 = .ok (.aload_n 0, 1) := by decide +kernel
theorem dX12_operand_210 : decode cX12_operand 210 = .ok (.getfield 167, 3) := by decide +kernel
theorem dX12_operand_213 : decode cX12_operand 213 = .ok (.aload_n 0, 1) := by decide +kernel
theorem dX12_operand_214 : decode cX12_operand 214 = .ok (.getfield 173, 3) := by decide +kernel
theorem dX12_operand_217 : decode cX12_operand 217 = .ok (.iconst 1, 1) := by decide +kernel
theorem dX12_operand_218 : decode cX12_operand 218 = .ok (.isub, 1) := by decide +kernel
theorem dX12_operand_219 : decode cX12_operand 219 = .ok (.iload_n 3, 1) := by decide +kernel
theorem dX12_operand_220 : decode cX12_operand 220 = .ok (.iastore, 1) := by decide +kernel
theorem dX12_operand_221 : decode cX12_operand 221 = .ok (.iconst 0, 1) := by decide +kernel
theorem dX12_operand_222 : decode cX12_operand 222 = .ok (.ireturn, 1) := by decide +kernel
theorem dX12_operand_223 : decode cX12_operand 223 = .ok (.aload_n 0, 1) := by decide +kernel
theorem dX12_operand_224 : decode cX12_operand 224 = .ok (.getfield 20, 3) := by decide +kernel
theorem dX12_operand_227 : decode cX12_operand 227 = .ok (.iconst 2, 1) := by decide +kernel
theorem dX12_operand_228 : decode cX12_operand 228 = .ok (.if_icmp .ne 7, 3) := by decide +kernel
theorem dX12_operand_231 : decode cX12_operand 231 = .ok (.iconst 0, 1) := by decide +kernel
theorem dX12_operand_232 : decode cX12_operand 232 = .ok (.goto 60, 3) := by decide +kernel
theorem dX12_operand_235 : decode cX12_operand 235 = .ok (.aload_n 0, 1) := by decide +kernel
theorem dX12_operand_236 : decode cX12_operand 236 = .ok (.ldc2_w 336, 3) := by decide +kernel
theorem dX12_operand_239 : decode cX12_operand 239 = .ok (.invokevirtual 368, 3) := by decide +kernel
theorem dX12_operand_242 : decode cX12_operand 242 = .ok (.ifCond .eq 7, 3) := by decide +kernel
theorem dX12_operand_245 : decode cX12_operand 245 = .ok (.iconst 1, 1) := by decide +kernel
theorem dX12_operand_246 : decode cX12_operand 246 = .ok (.goto 46, 3) := by decide +kernel
theorem dX12_operand_249 : decode cX12_operand 249 = .ok (.aload_n 0, 1) := by decide +kernel
theorem dX12_operand_250 : decode cX12_operand 250 = .ok (.ldc2_w 338, 3) := by decide +kernel
theorem dX12_operand_253 : decode cX12_operand 253 = .ok (.invokevirtual 368, 3) := by decide +kernel
theorem dX12_operand_256 : decode cX12_operand 256 = .ok (.ifCond .eq 7, 3) := by decide +kernel
theorem dX12_operand_259 : decode cX12_operand 259 = .ok (.iconst 2, 1) := by decide +kernel
theorem dX12_operand_260 : decode cX12_operand 260 = .ok (.goto 32, 3) := by decide +kernel
theorem dX12_operand_263 : decode cX12_operand 263 = .ok (.aload_n 0, 1) := by decide +kernel
theorem dX12_operand_264 : decode cX12_operand 264 = .ok (.ldc2_w 340, 3) := by decide +kernel
theorem dX12_operand_267 : decode cX12_operand 267 = .ok (.invokevirtual 368, 3) := by decide +kernel
theorem dX12_operand_270 : decode cX12_operand 270 = .ok (.ifCond .eq 7, 3) := by decide +kernel
theorem dX12_operand_273 : decode cX12_operand 273 = .ok (.iconst 3, 1) := by decide +kernel
theorem dX12_operand_274 : decode cX12_operand 274 = .ok (.goto 18, 3) := by decide +kernel
theorem dX12_operand_277 : decode cX12_operand 277 = .ok (.aload_n 0, 1) := by decide +kernel
theorem dX12_operand_278 : decode cX12_operand 278 = .ok (.ldc2_w 342, 3) := by decide +kernel
theorem dX12_operand_281 : decode cX12_operand 281 = .ok (.invokevirtual 368, 3) := by decide +kernel
theorem dX12_operand_284 : decode cX12_operand 284 = .ok (.ifCond .eq 7, 3) := by decide +kernel
theorem dX12_operand_287 : decode cX12_operand 287 = .ok (.iconst 4, 1) := by decide +kernel
theorem dX12_operand_288 : decode cX12_operand 288 = .ok (.goto 4, 3) := by decide +kernel
theorem dX12_operand_291 : decode cX12_operand 291 = .ok (.iconst (-1), 1) := by decide +kernel
theorem dX12_operand_292 : decode cX12_operand 292 = .ok (.istore_n 3, 1) := by decide +kernel
theorem dX12_operand_293 : decode cX12_operand 293 = .ok (.iload_n 3, 1) := by decide +kernel
theorem dX12_operand_294 : decode cX12_operand 294 = .ok (.iconst (-1), 1) := by decide +kernel
theorem dX12_operand_295 : decode cX12_operand 295 = .ok (.if_icmp .ne 12, 3) := by decide +kernel
theorem dX12_operand_298 : decode cX12_operand 298 = .ok (.aload_n 0, 1) := by decide +kernel
theorem dX12_operand_299 : decode cX12_operand 299 = .ok (.iconst 1, 1) := by decide +kernel
theorem dX12_operand_300 : decode cX12_operand 300 = .ok (.aload_n 0, 1) := by decide +kernel
theorem dX12_operand_301 : decode cX12_operand 301 = .ok (.getfield 23, 3) := by decide +kernel
theorem dX12_operand_304 : decode cX12_operand 304 = .ok (.invokevirtual 286, 3) := by decide +kernel
theorem dX12_operand_307 : decode cX12_operand 307 = .ok (.aload_n 0, 1) := by decide +kernel
theorem dX12_operand_308 : decode cX12_operand 308 = .ok (.getfield 36, 3) := by decide +kernel
theorem dX12_operand_311 : decode cX12_operand 311 = .ok (.ifCond .le 5, 3) := by decide +kernel
theorem dX12_operand_314 : decode cX12_operand 314 = .ok (.iconst 1, 1) := by decide +kernel
theorem dX12_operand_315 : decode cX12_operand 315 = .ok (.ireturn, 1) := by decide +kernel
theorem dX12_operand_316 : decode cX12_operand 316 = .ok (.aload_n 0, 1) := by decide +kernel
theorem dX12_operand_317 : decode cX12_operand 317 = .ok (.iload_n 3, 1) := by decide +kernel
theorem dX12_operand_318 : decode cX12_operand 318 = .ok (.aload_n 0, 1) := by decide +kernel
theorem dX12_operand_319 : decode cX12_operand 319 = .ok (.getfield 29, 3) := by decide +kernel
theorem dX12_operand_322 : decode cX12_operand 322 = .ok (.invokevirtual 359, 3) := by decide +kernel
theorem dX12_operand_325 : decode cX12_operand 325 = .ok (.aload_n 0, 1) := by decide +kernel
theorem dX12_operand_326 : decode cX12_operand 326 = .ok (.invokevirtual 293, 3) := by decide +kernel
theorem dX12_operand_329 : decode cX12_operand 329 = .ok (.iconst 1, 1) := by decide +kernel
theorem dX12_operand_330 : decode cX12_operand 330 = .ok (.ireturn, 1) := by decide +kernel
