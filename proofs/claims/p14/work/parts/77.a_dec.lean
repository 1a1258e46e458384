theorem dX12_goesOn_0 : decode cX12_goesOn 0 = .ok (.aload_n 0, 1) := by decide +kernel
theorem dX12_goesOn_1 : decode cX12_goesOn 1 = .ok (.getfield 173, 3) := by decide +kernel
theorem dX12_goesOn_4 : decode cX12_goesOn 4 = .ok (.iconst 1, 1) := by decide +kernel
theorem dX12_goesOn_5 : decode cX12_goesOn 5 = .ok (.isub, 1) := by decide +kernel
theorem dX12_goesOn_6 : decode cX12_goesOn 6 = .ok (.istore_n 1, 1) := by decide +kernel
theorem dX12_goesOn_7 : decode cX12_goesOn 7 = .ok (.aload_n 0, 1) := by decide +kernel
theorem dX12_goesOn_8 : decode cX12_goesOn 8 = .ok (.getfield 158, 3) := by decide +kernel
theorem dX12_goesOn_11 : decode cX12_goesOn 11 = .ok (.iload_n 1, 1) := by decide +kernel
theorem dX12_goesOn_12 : decode cX12_goesOn 12 = .ok (.iaload, 1) := by decide +kernel
theorem dX12_goesOn_13 : decode cX12_goesOn 13 = .ok (.istore_n 2, 1) := by decide +kernel
theorem dX12_goesOn_14 : decode cX12_goesOn 14 = .ok (.iload_n 2, 1) := by decide +kernel
theorem dX12_goesOn_15 : decode cX12_goesOn 15 = .ok (.invokestatic 365, 3) := by decide +kernel
theorem dX12_goesOn_18 : decode cX12_goesOn 18 = .ok (.istore_n 3, 1) := by decide +kernel
theorem dX12_goesOn_19 : decode cX12_goesOn 19 = .ok (.aload_n 0, 1) := by decide +kernel
theorem dX12_goesOn_20 : decode cX12_goesOn 20 = .ok (.getfield 161, 3) := by decide +kernel
theorem dX12_goesOn_23 : decode cX12_goesOn 23 = .ok (.iload_n 1, 1) := by decide +kernel
theorem dX12_goesOn_24 : decode cX12_goesOn 24 = .ok (.iaload, 1) := by decide +kernel
theorem dX12_goesOn_25 : decode cX12_goesOn 25 = .ok (.iconst 2, 1) := by decide +kernel
theorem dX12_goesOn_26 : decode cX12_goesOn 26 = .ok (.if_icmp .ge 149, 3) := by decide +kernel
theorem dX12_goesOn_29 : decode cX12_goesOn 29 = .ok (.aload_n 0, 1) := by decide +kernel
theorem dX12_goesOn_30 : decode cX12_goesOn 30 = .ok (.bipush 43, 2) := by decide +kernel
theorem dX12_goesOn_32 : decode cX12_goesOn 32 = .ok (.invokevirtual 290, 3) := by decide +kernel
theorem dX12_goesOn_35 : decode cX12_goesOn 35 = .ok (.ifCond .ne 39, 3) := by decide +kernel
theorem dX12_goesOn_38 : decode cX12_goesOn 38 = .ok (.aload_n 0, 1) := by decide +kernel
theorem dX12_goesOn_39 : decode cX12_goesOn 39 = .ok (.bipush 45, 2) := by decide +kernel
theorem dX12_goesOn_41 : decode cX12_goesOn 41 = .ok (.invokevirtual 290, 3) := by decide +kernel
theorem dX12_goesOn_44 : decode cX12_goesOn 44 = .ok (.ifCond .ne 30, 3) := by decide +kernel
theorem dX12_goesOn_47 : decode cX12_goesOn 47 = .ok (.aload_n 0, 1) := by decide +kernel
theorem dX12_goesOn_48 : decode cX12_goesOn 48 = .ok (.bipush 42, 2) := by decide +kernel
theorem dX12_goesOn_50 : decode cX12_goesOn 50 = .ok (.invokevirtual 290, 3) := by decide +kernel
theorem dX12_goesOn_53 : decode cX12_goesOn 53 = .ok (.ifCond .ne 21, 3) := by decide +kernel
theorem dX12_goesOn_56 : decode cX12_goesOn 56 = .ok (.aload_n 0, 1) := by decide +kernel
theorem dX12_goesOn_57 : decode cX12_goesOn 57 = .ok (.bipush 47, 2) := by decide +kernel
theorem dX12_goesOn_59 : decode cX12_goesOn 59 = .ok (.invokevirtual 290, 3) := by decide +kernel
theorem dX12_goesOn_62 : decode cX12_goesOn 62 = .ok (.ifCond .ne 12, 3) := by decide +kernel
theorem dX12_goesOn_65 : decode cX12_goesOn 65 = .ok (.aload_n 0, 1) := by decide +kernel
theorem dX12_goesOn_66 : decode cX12_goesOn 66 = .ok (.bipush 37, 2) := by decide +kernel
theorem dX12_goesOn_68 : decode cX12_goesOn 68 = .ok (.invokevirtual 290, 3) := by decide +kernel
theorem dX12_goesOn_71 : decode cX12_goesOn 71 = .ok (.ifCond .eq 104, 3) := by decide +kernel
theorem dX12_goesOn_74 : decode cX12_goesOn 74 = .ok (.aload_n 0, 1) := by decide +kernel
theorem dX12_goesOn_75 : decode cX12_goesOn 75 = .ok (.aload_n 0, 1) := by decide +kernel
theorem dX12_goesOn_76 : decode cX12_goesOn 76 = .ok (.bipush 43, 2) := by decide +kernel
theorem dX12_goesOn_78 : decode cX12_goesOn 78 = .ok (.invokevirtual 290, 3) := by decide +kernel
theorem dX12_goesOn_81 : decode cX12_goesOn 81 = .ok (.ifCond .ne 12, 3) := by decide +kernel
theorem dX12_goesOn_84 : decode cX12_goesOn 84 = .ok (.aload_n 0, 1) := by decide +kernel
theorem dX12_goesOn_85 : decode cX12_goesOn 85 = .ok (.bipush 45, 2) := by decide +kernel
theorem dX12_goesOn_87 : decode cX12_goesOn 87 = .ok (.invokevirtual 290, 3) := by decide +kernel
theorem dX12_goesOn_90 : decode cX12_goesOn 90 = .ok (.ifCond .eq 7, 3) := by decide +kernel
theorem dX12_goesOn_93 : decode cX12_goesOn 93 = .ok (.iconst 5, 1) := by decide +kernel
theorem dX12_goesOn_94 : decode cX12_goesOn 94 = .ok (.goto 5, 3) := by decide +kernel
theorem dX12_goesOn_97 : decode cX12_goesOn 97 = .ok (.bipush 6, 2) := by decide +kernel
theorem dX12_goesOn_99 : decode cX12_goesOn 99 = .ok (.invokevirtual 378, 3) := by decide +kernel
theorem dX12_goesOn_102 : decode cX12_goesOn 102 = .ok (.aload_n 0, 1) := by decide +kernel
theorem dX12_goesOn_103 : decode cX12_goesOn 103 = .ok (.aload_n 0, 1) := by decide +kernel
theorem dX12_goesOn_104 : decode cX12_goesOn 104 = .ok (.bipush 43, 2) := by decide +kernel
theorem dX12_goesOn_106 : decode cX12_goesOn 106 = .ok (.invokevirtual 290, 3) := by decide +kernel
theorem dX12_goesOn_109 : decode cX12_goesOn 109 = .ok (.ifCond .eq 8, 3) := by decide +kernel
theorem dX12_goesOn_112 : decode cX12_goesOn 112 = .ok (.bipush 10, 2) := by decide +kernel
theorem dX12_goesOn_114 : decode cX12_goesOn 114 = .ok (.goto 47, 3) := by decide +kernel
theorem dX12_goesOn_117 : decode cX12_goesOn 117 = .ok (.aload_n 0, 1) := by decide +kernel
theorem dX12_goesOn_118 : decode cX12_goesOn 118 = .ok (.bipush 45, 2) := by decide +kernel
theorem dX12_goesOn_120 : decode cX12_goesOn 120 = .ok (.invokevirtual 290, 3) := by decide +kernel
theorem dX12_goesOn_123 : decode cX12_goesOn 123 = .ok (.ifCond .eq 8, 3) := by decide +kernel
theorem dX12_goesOn_126 : decode cX12_goesOn 126 = .ok (.bipush 11, 2) := by decide +kernel
theorem dX12_goesOn_128 : decode cX12_goesOn 128 = .ok (.goto 33, 3) := by decide +kernel
theorem dX12_goesOn_131 : decode cX12_goesOn 131 = .ok (.aload_n 0, 1) := by decide +kernel
theorem dX12_goesOn_132 : decode cX12_goesOn 132 = .ok (.bipush 42, 2) := by decide +kernel
theorem dX12_goesOn_134 : decode cX12_goesOn 134 = .ok (.invokevirtual 290, 3) := by decide +kernel
theorem dX12_goesOn_137 : decode cX12_goesOn 137 = .ok (.ifCond .eq 8, 3) := by decide +kernel
theorem dX12_goesOn_140 : decode cX12_goesOn 140 = .ok (.bipush 12, 2) := by decide +kernel
theorem dX12_goesOn_142 : decode cX12_goesOn 142 = .ok (.goto 19, 3) := by decide +kernel
theorem dX12_goesOn_145 : decode cX12_goesOn 145 = .ok (.aload_n 0, 1) := by decide +kernel
theorem dX12_goesOn_146 : decode cX12_goesOn 146 = .ok (.bipush 47, 2) := by decide +kernel
theorem dX12_goesOn_148 : decode cX12_goesOn 148 = .ok (.invokevirtual 290, 3) := by decide +kernel
theorem dX12_goesOn_151 : decode cX12_goesOn 151 = .ok (.ifCond .eq 8, 3) := by decide +kernel
theorem dX12_goesOn_154 : decode cX12_goesOn 154 = .ok (.bipush 13, 2) := by decide +kernel
theorem dX12_goesOn_156 : decode cX12_goesOn 156 = .ok (.goto 5, 3) := by decide +kernel
theorem dX12_goesOn_159 : decode cX12_goesOn 159 = .ok (.bipush 14, 2) := by decide +kernel
theorem dX12_goesOn_161 : decode cX12_goesOn 161 = .ok (.invokevirtual 372, 3) := by decide +kernel
theorem dX12_goesOn_164 : decode cX12_goesOn 164 = .ok (.aload_n 0, 1) := by decide +kernel
theorem dX12_goesOn_165 : decode cX12_goesOn 165 = .ok (.invokevirtual 293, 3) := by decide +kernel
theorem dX12_goesOn_168 : decode cX12_goesOn 168 = .ok (.aload_n 0, 1) := by decide +kernel
theorem dX12_goesOn_169 : decode cX12_goesOn 169 = .ok (.iconst 0, 1) := by decide +kernel
theorem dX12_goesOn_170 : decode cX12_goesOn 170 = .ok (.putfield 185, 3) := by decide +kernel
theorem dX12_goesOn_173 : decode cX12_goesOn 173 = .ok (.iconst 1, 1) := by decide +kernel
theorem dX12_goesOn_174 : decode cX12_goesOn 174 = .ok (.ireturn, 1) := by decide +kernel
theorem dX12_goesOn_175 : decode cX12_goesOn 175 = .ok (.iload_n 3, 1) := by decide +kernel
theorem dX12_goesOn_176 : decode cX12_goesOn 176 = .ok (.ifCond .eq 96, 3) := by decide +kernel
theorem dX12_goesOn_179 : decode cX12_goesOn 179 = .ok (.aload_n 0, 1) := by decide +kernel
theorem dX12_goesOn_180 : decode cX12_goesOn 180 = .ok (.getfield 161, 3) := by decide +kernel
theorem dX12_goesOn_183 : decode cX12_goesOn 183 = .ok (.iload_n 1, 1) := by decide +kernel
theorem dX12_goesOn_184 : decode cX12_goesOn 184 = .ok (.iaload, 1) := by decide +kernel
theorem dX12_goesOn_185 : decode cX12_goesOn 185 = .ok (.ifCond .ne 87, 3) := by decide +kernel
theorem dX12_goesOn_188 : decode cX12_goesOn 188 = .ok (.aload_n 0, 1) := by decide +kernel
theorem dX12_goesOn_189 : decode cX12_goesOn 189 = .ok (.bipush 60, 2) := by decide +kernel
theorem dX12_goesOn_191 : decode cX12_goesOn 191 = .ok (.invokevirtual 290, 3) := by decide +kernel
theorem dX12_goesOn_194 : decode cX12_goesOn 194 = .ok (.ifCond .ne 21, 3) := by decide +kernel
theorem dX12_goesOn_197 : decode cX12_goesOn 197 = .ok (.aload_n 0, 1) := by decide +kernel
theorem dX12_goesOn_198 : decode cX12_goesOn 198 = .ok (.bipush 62, 2) := by decide +kernel
theorem dX12_goesOn_200 : decode cX12_goesOn 200 = .ok (.invokevirtual 290, 3) := by decide +kernel
theorem dX12_goesOn_203 : decode cX12_goesOn 203 = .ok (.ifCond .ne 12, 3) := by decide +kernel
theorem dX12_goesOn_206 : decode cX12_goesOn 206 = .ok (.aload_n 0, 1) := by decide +kernel
theorem dX12_goesOn_207 : decode cX12_goesOn 207 = .ok (.bipush 61, 2) := by decide +kernel
theorem dX12_goesOn_209 : decode cX12_goesOn 209 = .ok (.invokevirtual 290, 3) := by decide +kernel
theorem dX12_goesOn_212 : decode cX12_goesOn 212 = .ok (.ifCond .eq 60, 3) := by decide +kernel
theorem dX12_goesOn_215 : decode cX12_goesOn 215 = .ok (.aload_n 0, 1) := by decide +kernel
theorem dX12_goesOn_216 : decode cX12_goesOn 216 = .ok (.iconst 5, 1) := by decide +kernel
theorem dX12_goesOn_217 : decode cX12_goesOn 217 = .ok (.invokevirtual 378, 3) := by decide +kernel
theorem dX12_goesOn_220 : decode cX12_goesOn 220 = .ok (.aload_n 0, 1) := by decide +kernel
theorem dX12_goesOn_221 : decode cX12_goesOn 221 = .ok (.aload_n 0, 1) := by decide +kernel
theorem dX12_goesOn_222 : decode cX12_goesOn 222 = .ok (.bipush 60, 2) := by decide +kernel
theorem dX12_goesOn_224 : decode cX12_goesOn 224 = .ok (.invokevirtual 290, 3) := by decide +kernel
theorem dX12_goesOn_227 : decode cX12_goesOn 227 = .ok (.ifCond .eq 8, 3) := by decide +kernel
theorem dX12_goesOn_230 : decode cX12_goesOn 230 = .ok (.bipush 17, 2) := by decide +kernel
theorem dX12_goesOn_232 : decode cX12_goesOn 232 = .ok (.goto 19, 3) := by decide +kernel
theorem dX12_goesOn_235 : decode cX12_goesOn 235 = .ok (.aload_n 0, 1) := by decide +kernel
theorem dX12_goesOn_236 : decode cX12_goesOn 236 = .ok (.bipush 62, 2) := by decide +kernel
theorem dX12_goesOn_238 : decode cX12_goesOn 238 = .ok (.invokevirtual 290, 3) := by decide +kernel
theorem dX12_goesOn_241 : decode cX12_goesOn 241 = .ok (.ifCond .eq 8, 3) := by decide +kernel
theorem dX12_goesOn_244 : decode cX12_goesOn 244 = .ok (.bipush 18, 2) := by decide +kernel
theorem dX12_goesOn_246 : decode cX12_goesOn 246 = .ok (.goto 5, 3) := by decide +kernel
theorem dX12_goesOn_249 : decode cX12_goesOn 249 = .ok (.bipush 19, 2) := by decide +kernel
theorem dX12_goesOn_251 : decode cX12_goesOn 251 = .ok (.invokevirtual 372, 3) := by decide +kernel
theorem dX12_goesOn_254 : decode cX12_goesOn 254 = .ok (.aload_n 0, 1) := by decide +kernel
theorem dX12_goesOn_255 : decode cX12_goesOn 255 = .ok (.getfield 161, 3) := by decide +kernel
theorem dX12_goesOn_258 : decode cX12_goesOn 258 = .ok (.iload_n 1, 1) := by decide +kernel
theorem dX12_goesOn_259 : decode cX12_goesOn 259 = .ok (.iconst 1, 1) := by decide +kernel
theorem dX12_goesOn_260 : decode cX12_goesOn 260 = .ok (.iastore, 1) := by decide +kernel
theorem dX12_goesOn_261 : decode cX12_goesOn 261 = .ok (.aload_n 0, 1) := by decide +kernel
theorem dX12_goesOn_262 : decode cX12_goesOn 262 = .ok (.invokevirtual 293, 3) := by decide +kernel
theorem dX12_goesOn_265 : decode cX12_goesOn 265 = .ok (.aload_n 0, 1) := by decide +kernel
theorem dX12_goesOn_266 : decode cX12_goesOn 266 = .ok (.iconst 0, 1) := by decide +kernel
theorem dX12_goesOn_267 : decode cX12_goesOn 267 = .ok (.putfield 185, 3) := by decide +kernel
theorem dX12_goesOn_270 : decode cX12_goesOn 270 = .ok (.iconst 1, 1) := by decide +kernel
theorem dX12_goesOn_271 : decode cX12_goesOn 271 = .ok (.ireturn, 1) := by decide +kernel
theorem dX12_goesOn_272 : decode cX12_goesOn 272 = .ok (.iload_n 3, 1) := by decide +kernel
theorem dX12_goesOn_273 : decode cX12_goesOn 273 = .ok (.ifCond .eq 114, 3) := by decide +kernel
theorem dX12_goesOn_276 : decode cX12_goesOn 276 = .ok (.aload_n 0, 1) := by decide +kernel
theorem dX12_goesOn_277 : decode cX12_goesOn 277 = .ok (.ldc2_w 330, 3) := by decide +kernel
theorem dX12_goesOn_280 : decode cX12_goesOn 280 = .ok (.invokevirtual 368, 3) := by decide +kernel
theorem dX12_goesOn_283 : decode cX12_goesOn 283 = .ok (.ifCond .ne 13, 3) := by decide +kernel
theorem dX12_goesOn_286 : decode cX12_goesOn 286 = .ok (.aload_n 0, 1) := by decide +kernel
theorem dX12_goesOn_287 : decode cX12_goesOn 287 = .ok (.ldc2_w 328, 3) := by decide +kernel
theorem dX12_goesOn_290 : decode cX12_goesOn 290 = .ok (.invokevirtual 368, 3) := by decide +kernel
theorem dX12_goesOn_293 : decode cX12_goesOn 293 = .ok (.ifCond .eq 94, 3) := by decide +kernel
theorem dX12_goesOn_296 : decode cX12_goesOn 296 = .ok (.aload_n 0, 1) := by decide +kernel
theorem dX12_goesOn_297 : decode cX12_goesOn 297 = .ok (.getfield 161, 3) := by decide +kernel
theorem dX12_goesOn_300 : decode cX12_goesOn 300 = .ok (.iload_n 1, 1) := by decide +kernel
theorem dX12_goesOn_301 : decode cX12_goesOn 301 = .ok (.iaload, 1) := by decide +kernel
theorem dX12_goesOn_302 : decode cX12_goesOn 302 = .ok (.ifCond .ne 12, 3) := by decide +kernel
theorem dX12_goesOn_305 : decode cX12_goesOn 305 = .ok (.aload_n 0, 1) := by decide +kernel
theorem dX12_goesOn_306 : decode cX12_goesOn 306 = .ok (.iconst 1, 1) := by decide +kernel
theorem dX12_goesOn_307 : decode cX12_goesOn 307 = .ok (.aload_n 0, 1) := by decide +kernel
theorem dX12_goesOn_308 : decode cX12_goesOn 308 = .ok (.getfield 23, 3) := by decide +kernel
theorem dX12_goesOn_311 : decode cX12_goesOn 311 = .ok (.invokevirtual 286, 3) := by decide +kernel
theorem dX12_goesOn_314 : decode cX12_goesOn 314 = .ok (.aload_n 0, 1) := by decide +kernel
theorem dX12_goesOn_315 : decode cX12_goesOn 315 = .ok (.getfield 36, 3) := by decide +kernel
theorem dX12_goesOn_318 : decode cX12_goesOn 318 = .ok (.ifCond .le 5, 3) := by decide +kernel
theorem dX12_goesOn_321 : decode cX12_goesOn 321 = .ok (.iconst 0, 1) := by decide +kernel
theorem dX12_goesOn_322 : decode cX12_goesOn 322 = .ok (.ireturn, 1) := by decide +kernel
theorem dX12_goesOn_323 : decode cX12_goesOn 323 = .ok (.aload_n 0, 1) := by decide +kernel
theorem dX12_goesOn_324 : decode cX12_goesOn 324 = .ok (.ldc2_w 330, 3) := by decide +kernel
theorem dX12_goesOn_327 : decode cX12_goesOn 327 = .ok (.invokevirtual 368, 3) := by decide +kernel
theorem dX12_goesOn_330 : decode cX12_goesOn 330 = .ok (.istore 4, 2) := by decide +kernel
theorem dX12_goesOn_332 : decode cX12_goesOn 332 = .ok (.aload_n 0, 1) := by decide +kernel
theorem dX12_goesOn_333 : decode cX12_goesOn 333 = .ok (.iload 4, 2) := by decide +kernel
theorem dX12_goesOn_335 : decode cX12_goesOn 335 = .ok (.ifCond .eq 7, 3) := by decide +kernel
theorem dX12_goesOn_338 : decode cX12_goesOn 338 = .ok (.iconst 2, 1) := by decide +kernel
theorem dX12_goesOn_339 : decode cX12_goesOn 339 = .ok (.goto 4, 3) := by decide +kernel
theorem dX12_goesOn_342 : decode cX12_goesOn 342 = .ok (.iconst 1, 1) := by decide +kernel
theorem dX12_goesOn_343 : decode cX12_goesOn 343 = .ok (.invokevirtual 378, 3) := by decide +kernel
theorem dX12_goesOn_346 : decode cX12_goesOn 346 = .ok (.aload_n 0, 1) := by decide +kernel
theorem dX12_goesOn_347 : decode cX12_goesOn 347 = .ok (.iload 4, 2) := by decide +kernel
theorem dX12_goesOn_349 : decode cX12_goesOn 349 = .ok (.ifCond .eq 8, 3) := by decide +kernel
theorem dX12_goesOn_352 : decode cX12_goesOn 352 = .ok (.bipush 20, 2) := by decide +kernel
theorem dX12_goesOn_354 : decode cX12_goesOn 354 = .ok (.goto 5, 3) := by decide +kernel
theorem dX12_goesOn_357 : decode cX12_goesOn 357 = .ok (.bipush 21, 2) := by decide +kernel
theorem dX12_goesOn_359 : decode cX12_goesOn 359 = .ok (.invokevirtual 372, 3) := by decide +kernel
theorem dX12_goesOn_362 : decode cX12_goesOn 362 = .ok (.aload_n 0, 1) := by decide +kernel
theorem dX12_goesOn_363 : decode cX12_goesOn 363 = .ok (.getfield 161, 3) := by decide +kernel
theorem dX12_goesOn_366 : decode cX12_goesOn 366 = .ok (.iload_n 1, 1) := by decide +kernel
theorem dX12_goesOn_367 : decode cX12_goesOn 367 = .ok (.iconst 0, 1) := by decide +kernel
theorem dX12_goesOn_368 : decode cX12_goesOn 368 = .ok (.iastore, 1) := by decide +kernel
theorem dX12_goesOn_369 : decode cX12_goesOn 369 = .ok (.aload_n 0, 1) := by decide +kernel
theorem dX12_goesOn_370 : decode cX12_goesOn 370 = .ok (.getfield 164, 3) := by decide +kernel
theorem dX12_goesOn_373 : decode cX12_goesOn 373 = .ok (.iload_n 1, 1) := by decide +kernel
theorem dX12_goesOn_374 : decode cX12_goesOn 374 = .ok (.iconst 1, 1) := by decide +kernel
theorem dX12_goesOn_375 : decode cX12_goesOn 375 = .ok (.bastore, 1) := by decide +kernel
theorem dX12_goesOn_376 : decode cX12_goesOn 376 = .ok (.aload_n 0, 1) := by decide +kernel
theorem dX12_goesOn_377 : decode cX12_goesOn 377 = .ok (.invokevirtual 293, 3) := by decide +kernel
theorem dX12_goesOn_380 : decode cX12_goesOn 380 = .ok (.aload_n 0, 1) := by decide +kernel
theorem dX12_goesOn_381 : decode cX12_goesOn 381 = .ok (.iconst 0, 1) := by decide +kernel
theorem dX12_goesOn_382 : decode cX12_goesOn 382 = .ok (.putfield 185, 3) := by decide +kernel
theorem dX12_goesOn_385 : decode cX12_goesOn 385 = .ok (.iconst 1, 1) := by decide +kernel
theorem dX12_goesOn_386 : decode cX12_goesOn 386 = .ok (.ireturn, 1) := by decide +kernel
theorem dX12_goesOn_387 : decode cX12_goesOn 387 = .ok (.iload_n 3, 1) := by decide +kernel
theorem dX12_goesOn_388 : decode cX12_goesOn 388 = .ok (.ifCond .eq 21, 3) := by decide +kernel
theorem dX12_goesOn_391 : decode cX12_goesOn 391 = .ok (.aload_n 0, 1) := by decide +kernel
theorem dX12_goesOn_392 : decode cX12_goesOn 392 = .ok (.getfield 161, 3) := by decide +kernel
theorem dX12_goesOn_395 : decode cX12_goesOn 395 = .ok (.iload_n 1, 1) := by decide +kernel
theorem dX12_goesOn_396 : decode cX12_goesOn 396 = .ok (.iaload, 1) := by decide +kernel
theorem dX12_goesOn_397 : decode cX12_goesOn 397 = .ok (.ifCond .ne 12, 3) := by decide +kernel
theorem dX12_goesOn_400 : decode cX12_goesOn 400 = .ok (.aload_n 0, 1) := by decide +kernel
theorem dX12_goesOn_401 : decode cX12_goesOn 401 = .ok (.iconst 1, 1) := by decide +kernel
theorem dX12_goesOn_402 : decode cX12_goesOn 402 = .ok (.aload_n 0, 1) := by decide +kernel
theorem dX12_goesOn_403 : decode cX12_goesOn 403 = .ok (.getfield 23, 3) := by decide +kernel
theorem dX12_goesOn_406 : decode cX12_goesOn 406 = .ok (.invokevirtual 286, 3) := by decide +kernel
theorem dX12_goesOn_409 : decode cX12_goesOn 409 = .ok (.iload_n 2, 1) := by decide +kernel
theorem dX12_goesOn_410 : decode cX12_goesOn 410 = .ok (.iconst 2, 1) := by decide +kernel
theorem dX12_goesOn_411 : decode cX12_goesOn 411 = .ok (.if_icmp .ge 17, 3) := by decide +kernel
theorem dX12_goesOn_414 : decode cX12_goesOn 414 = .ok (.aload_n 0, 1) := by decide +kernel
theorem dX12_goesOn_415 : decode cX12_goesOn 415 = .ok (.getfield 36, 3) := by decide +kernel
theorem dX12_goesOn_418 : decode cX12_goesOn 418 = .ok (.ifCond .ne 8, 3) := by decide +kernel
theorem dX12_goesOn_421 : decode cX12_goesOn 421 = .ok (.aload_n 0, 1) := by decide +kernel
theorem dX12_goesOn_422 : decode cX12_goesOn 422 = .ok (.iconst 1, 1) := by decide +kernel
theorem dX12_goesOn_423 : decode cX12_goesOn 423 = .ok (.invokevirtual 378, 3) := by decide +kernel
theorem dX12_goesOn_426 : decode cX12_goesOn 426 = .ok (.iconst 0, 1) := by decide +kernel
theorem dX12_goesOn_427 : decode cX12_goesOn 427 = .ok (.ireturn, 1) := by decide +kernel
theorem dX12_goesOn_428 : decode cX12_goesOn 428 = .ok (.iload_n 2, 1) := by decide +kernel
theorem dX12_goesOn_429 : decode cX12_goesOn 429 = .ok (.iconst 3, 1) := by decide +kernel
theorem dX12_goesOn_430 : decode cX12_goesOn 430 = .ok (.if_icmp .ne 53, 3) := by decide +kernel
theorem dX12_goesOn_433 : decode cX12_goesOn 433 = .ok (.aload_n 0, 1) := by decide +kernel
theorem dX12_goesOn_434 : decode cX12_goesOn 434 = .ok (.bipush 44, 2) := by decide +kernel
theorem dX12_goesOn_436 : decode cX12_goesOn 436 = .ok (.invokevirtual 290, 3) := by decide +kernel
theorem dX12_goesOn_439 : decode cX12_goesOn 439 = .ok (.ifCond .ne 12, 3) := by decide +kernel
theorem dX12_goesOn_442 : decode cX12_goesOn 442 = .ok (.aload_n 0, 1) := by decide +kernel
theorem dX12_goesOn_443 : decode cX12_goesOn 443 = .ok (.iconst 1, 1) := by decide +kernel
theorem dX12_goesOn_444 : decode cX12_goesOn 444 = .ok (.aload_n 0, 1) := by decide +kernel
theorem dX12_goesOn_445 : decode cX12_goesOn 445 = .ok (.getfield 23, 3) := by decide +kernel
theorem dX12_goesOn_448 : decode cX12_goesOn 448 = .ok (.invokevirtual 286, 3) := by decide +kernel
theorem dX12_goesOn_451 : decode cX12_goesOn 451 = .ok (.aload_n 0, 1) := by decide +kernel
theorem dX12_goesOn_452 : decode cX12_goesOn 452 = .ok (.getfield 36, 3) := by decide +kernel
theorem dX12_goesOn_455 : decode cX12_goesOn 455 = .ok (.ifCond .le 5, 3) := by decide +kernel
theorem dX12_goesOn_458 : decode cX12_goesOn 458 = .ok (.iconst 0, 1) := by decide +kernel
theorem dX12_goesOn_459 : decode cX12_goesOn 459 = .ok (.ireturn, 1) := by decide +kernel
theorem dX12_goesOn_460 : decode cX12_goesOn 460 = .ok (.aload_n 0, 1) := by decide +kernel
theorem dX12_goesOn_461 : decode cX12_goesOn 461 = .ok (.iconst 1, 1) := by decide +kernel
theorem dX12_goesOn_462 : decode cX12_goesOn 462 = .ok (.invokevirtual 378, 3) := by decide +kernel
theorem dX12_goesOn_465 : decode cX12_goesOn 465 = .ok (.aload_n 0, 1) := by decide +kernel
theorem dX12_goesOn_466 : decode cX12_goesOn 466 = .ok (.getfield 158, 3) := by decide +kernel
theorem dX12_goesOn_469 : decode cX12_goesOn 469 = .ok (.iload_n 1, 1) := by decide +kernel
theorem dX12_goesOn_470 : decode cX12_goesOn 470 = .ok (.iconst 4, 1) := by decide +kernel
theorem dX12_goesOn_471 : decode cX12_goesOn 471 = .ok (.iastore, 1) := by decide +kernel
theorem dX12_goesOn_472 : decode cX12_goesOn 472 = .ok (.aload_n 0, 1) := by decide +kernel
theorem dX12_goesOn_473 : decode cX12_goesOn 473 = .ok (.invokevirtual 293, 3) := by decide +kernel
theorem dX12_goesOn_476 : decode cX12_goesOn 476 = .ok (.aload_n 0, 1) := by decide +kernel
theorem dX12_goesOn_477 : decode cX12_goesOn 477 = .ok (.iconst 0, 1) := by decide +kernel
theorem dX12_goesOn_478 : decode cX12_goesOn 478 = .ok (.putfield 185, 3) := by decide +kernel
theorem dX12_goesOn_481 : decode cX12_goesOn 481 = .ok (.iconst 1, 1) := by decide +kernel
theorem dX12_goesOn_482 : decode cX12_goesOn 482 = .ok (.ireturn, 1) := by decide +kernel
theorem dX12_goesOn_483 : decode cX12_goesOn 483 = .ok (.aload_n 0, 1) := by decide +kernel
theorem dX12_goesOn_484 : decode cX12_goesOn 484 = .ok (.iload_n 2, 1) := by decide +kernel
theorem dX12_goesOn_485 : decode cX12_goesOn 485 = .ok (.iconst 5, 1) := by decide +kernel
theorem dX12_goesOn_486 : decode cX12_goesOn 486 = .ok (.if_icmp .ne 8, 3) := by decide +kernel
theorem dX12_goesOn_489 : decode cX12_goesOn 489 = .ok (.bipush 93, 2) := by decide +kernel
theorem dX12_goesOn_491 : decode cX12_goesOn 491 = .ok (.goto 5, 3) := by decide +kernel
theorem dX12_goesOn_494 : decode cX12_goesOn 494 = .ok (.bipush 41, 2) := by decide +kernel
theorem dX12_goesOn_496 : decode cX12_goesOn 496 = .ok (.invokevirtual 290, 3) := by decide +kernel
theorem dX12_goesOn_499 : decode cX12_goesOn 499 = .ok (.ifCond .ne 12, 3) := by decide +kernel
theorem dX12_goesOn_502 : decode cX12_goesOn 502 = .ok (.aload_n 0, 1) := by decide +kernel
theorem dX12_goesOn_503 : decode cX12_goesOn 503 = .ok (.iconst 1, 1) := by decide +kernel
theorem dX12_goesOn_504 : decode cX12_goesOn 504 = .ok (.aload_n 0, 1) := by decide +kernel
theorem dX12_goesOn_505 : decode cX12_goesOn 505 = .ok (.getfield 23, 3) := by decide +kernel
theorem dX12_goesOn_508 : decode cX12_goesOn 508 = .ok (.invokevirtual 286, 3) := by decide +kernel
theorem dX12_goesOn_511 : decode cX12_goesOn 511 = .ok (.aload_n 0, 1) := by decide +kernel
theorem dX12_goesOn_512 : decode cX12_goesOn 512 = .ok (.getfield 36, 3) := by decide +kernel
theorem dX12_goesOn_515 : decode cX12_goesOn 515 = .ok (.ifCond .le 5, 3) := by decide +kernel
theorem dX12_goesOn_518 : decode cX12_goesOn 518 = .ok (.iconst 0, 1) := by decide +kernel
theorem dX12_goesOn_519 : decode cX12_goesOn 519 = .ok (.ireturn, 1) := by decide +kernel
theorem dX12_goesOn_520 : decode cX12_goesOn 520 = .ok (.aload_n 0, 1) := by decide +kernel
theorem dX12_goesOn_521 : decode cX12_goesOn 521 = .ok (.iconst 1, 1) := by decide +kernel
theorem dX12_goesOn_522 : decode cX12_goesOn 522 = .ok (.invokevirtual 378, 3) := by decide +kernel
theorem dX12_goesOn_525 : decode cX12_goesOn 525 = .ok (.aload_n 0, 1) := by decide +kernel
theorem dX12_goesOn_526 : decode cX12_goesOn 526 = .ok (.dup, 1) := by decide +kernel
theorem dX12_goesOn_527 : decode cX12_goesOn 527 = .ok (.getfield 173, 3) := by decide +kernel
theorem dX12_goesOn_530 : decode cX12_goesOn 530 = .ok (.iconst 1, 1) := by decide +kernel
theorem dX12_goesOn_531 : decode cX12_goesOn 531 = .ok (.isub, 1) := by decide +kernel
theorem dX12_goesOn_532 : decode cX12_goesOn 532 = .ok (.putfield 173, 3) := by decide +kernel
theorem dX12_goesOn_535 : decode cX12_goesOn 535 = .ok (.aload_n 0, 1) := by decide +kernel
theorem dX12_goesOn_536 : decode cX12_goesOn 536 = .ok (.dup, 1) := by decide +kernel
theorem dX12_goesOn_537 : decode cX12_goesOn 537 = .ok (.getfield 176, 3) := by decide +kernel
theorem dX12_goesOn_540 : decode cX12_goesOn 540 = .ok (.iconst 1, 1) := by decide +kernel
theorem dX12_goesOn_541 : decode cX12_goesOn 541 = .ok (.isub, 1) := by decide +kernel
theorem dX12_goesOn_542 : decode cX12_goesOn 542 = .ok (.putfield 176, 3) := by decide +kernel
theorem dX12_goesOn_545 : decode cX12_goesOn 545 = .ok (.iload_n 2, 1) := by decide +kernel
theorem dX12_goesOn_546 : decode cX12_goesOn 546 = .ok (.iconst 4, 1) := by decide +kernel
theorem dX12_goesOn_547 : decode cX12_goesOn 547 = .ok (.if_icmp .ne 14, 3) := by decide +kernel
theorem dX12_goesOn_550 : decode cX12_goesOn 550 = .ok (.aload_n 0, 1) := by decide +kernel
theorem dX12_goesOn_551 : decode cX12_goesOn 551 = .ok (.aload_n 0, 1) := by decide +kernel
theorem dX12_goesOn_552 : decode cX12_goesOn 552 = .ok (.getfield 167, 3) := by decide +kernel
theorem dX12_goesOn_555 : decode cX12_goesOn 555 = .ok (.iload_n 1, 1) := by decide +kernel
theorem dX12_goesOn_556 : decode cX12_goesOn 556 = .ok (.iaload, 1) := by decide +kernel
theorem dX12_goesOn_557 : decode cX12_goesOn 557 = .ok (.iconst 0, 1) := by decide +kernel
theorem dX12_goesOn_558 : decode cX12_goesOn 558 = .ok (.invokevirtual 359, 3) := by decide +kernel
theorem dX12_goesOn_561 : decode cX12_goesOn 561 = .ok (.iload_n 2, 1) := by decide +kernel
theorem dX12_goesOn_562 : decode cX12_goesOn 562 = .ok (.iconst 5, 1) := by decide +kernel
theorem dX12_goesOn_563 : decode cX12_goesOn 563 = .ok (.if_icmp .ne 15, 3) := by decide +kernel
theorem dX12_goesOn_566 : decode cX12_goesOn 566 = .ok (.aload_n 0, 1) := by decide +kernel
theorem dX12_goesOn_567 : decode cX12_goesOn 567 = .ok (.getfield 161, 3) := by decide +kernel
theorem dX12_goesOn_570 : decode cX12_goesOn 570 = .ok (.aload_n 0, 1) := by decide +kernel
theorem dX12_goesOn_571 : decode cX12_goesOn 571 = .ok (.getfield 173, 3) := by decide +kernel
theorem dX12_goesOn_574 : decode cX12_goesOn 574 = .ok (.iconst 1, 1) := by decide +kernel
theorem dX12_goesOn_575 : decode cX12_goesOn 575 = .ok (.isub, 1) := by decide +kernel
theorem dX12_goesOn_576 : decode cX12_goesOn 576 = .ok (.iconst 2, 1) := by decide +kernel
theorem dX12_goesOn_577 : decode cX12_goesOn 577 = .ok (.iastore, 1) := by decide +kernel
theorem dX12_goesOn_578 : decode cX12_goesOn 578 = .ok (.aload_n 0, 1) := by decide +kernel
theorem dX12_goesOn_579 : decode cX12_goesOn 579 = .ok (.invokevirtual 293, 3) := by decide +kernel
theorem dX12_goesOn_582 : decode cX12_goesOn 582 = .ok (.iconst 1, 1) := by decide +kernel
theorem dX12_goesOn_583 : decode cX12_goesOn 583 = .ok (.ireturn, 1) := by decide +kernel
