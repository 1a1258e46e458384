theorem dX12_searches_0 : decode cX12_searches 0 = .ok (.iconst 0, 1) := by decide +kernel
theorem dX12_searches_1 : decode cX12_searches 1 = .ok (.istore 4, 2) := by decide +kernel
theorem dX12_searches_3 : decode cX12_searches 3 = .ok (.iload 4, 2) := by decide +kernel
theorem dX12_searches_5 : decode cX12_searches 5 = .ok (.ldc 207, 2) := by decide +kernel
theorem dX12_searches_7 : decode cX12_searches 7 = .ok (.if_icmp .ge 17, 3) := by decide +kernel
theorem dX12_searches_10 : decode cX12_searches 10 = .ok (.aload_n 0, 1) := by decide +kernel
theorem dX12_searches_11 : decode cX12_searches 11 = .ok (.getfield 208, 3) := by decide +kernel
theorem dX12_searches_14 : decode cX12_searches 14 = .ok (.iload 4, 2) := by decide +kernel
theorem dX12_searches_16 : decode cX12_searches 16 = .ok (.iconst (-1), 1) := by decide +kernel
theorem dX12_searches_17 : decode cX12_searches 17 = .ok (.iastore, 1) := by decide +kernel
theorem dX12_searches_18 : decode cX12_searches 18 = .ok (.iinc 4 1, 3) := by decide +kernel
theorem dX12_searches_21 : decode cX12_searches 21 = .ok (.goto (-18), 3) := by decide +kernel
theorem dX12_searches_24 : decode cX12_searches 24 = .ok (.aload_n 0, 1) := by decide +kernel
theorem dX12_searches_25 : decode cX12_searches 25 = .ok (.iconst 0, 1) := by decide +kernel
theorem dX12_searches_26 : decode cX12_searches 26 = .ok (.putfield 214, 3) := by decide +kernel
theorem dX12_searches_29 : decode cX12_searches 29 = .ok (.aload_n 0, 1) := by decide +kernel
theorem dX12_searches_30 : decode cX12_searches 30 = .ok (.iload_n 1, 1) := by decide +kernel
theorem dX12_searches_31 : decode cX12_searches 31 = .ok (.putfield 226, 3) := by decide +kernel
theorem dX12_searches_34 : decode cX12_searches 34 = .ok (.aload_n 0, 1) := by decide +kernel
theorem dX12_searches_35 : decode cX12_searches 35 = .ok (.iload_n 2, 1) := by decide +kernel
theorem dX12_searches_36 : decode cX12_searches 36 = .ok (.putfield 229, 3) := by decide +kernel
theorem dX12_searches_39 : decode cX12_searches 39 = .ok (.aload_n 0, 1) := by decide +kernel
theorem dX12_searches_40 : decode cX12_searches 40 = .ok (.iconst 0, 1) := by decide +kernel
theorem dX12_searches_41 : decode cX12_searches 41 = .ok (.putfield 235, 3) := by decide +kernel
theorem dX12_searches_44 : decode cX12_searches 44 = .ok (.bipush 6, 2) := by decide +kernel
theorem dX12_searches_46 : decode cX12_searches 46 = .ok (.aload_n 0, 1) := by decide +kernel
theorem dX12_searches_47 : decode cX12_searches 47 = .ok (.getfield 48, 3) := by decide +kernel
theorem dX12_searches_50 : decode cX12_searches 50 = .ok (.imul, 1) := by decide +kernel
theorem dX12_searches_51 : decode cX12_searches 51 = .ok (.istore 4, 2) := by decide +kernel
theorem dX12_searches_53 : decode cX12_searches 53 = .ok (.iload 4, 2) := by decide +kernel
theorem dX12_searches_55 : decode cX12_searches 55 = .ok (.bipush 6, 2) := by decide +kernel
theorem dX12_searches_57 : decode cX12_searches 57 = .ok (.aload_n 0, 1) := by decide +kernel
theorem dX12_searches_58 : decode cX12_searches 58 = .ok (.getfield 48, 3) := by decide +kernel
theorem dX12_searches_61 : decode cX12_searches 61 = .ok (.imul, 1) := by decide +kernel
theorem dX12_searches_62 : decode cX12_searches 62 = .ok (.aload_n 0, 1) := by decide +kernel
theorem dX12_searches_63 : decode cX12_searches 63 = .ok (.getfield 113, 3) := by decide +kernel
theorem dX12_searches_66 : decode cX12_searches 66 = .ok (.aload_n 0, 1) := by decide +kernel
theorem dX12_searches_67 : decode cX12_searches 67 = .ok (.getfield 48, 3) := by decide +kernel
theorem dX12_searches_70 : decode cX12_searches 70 = .ok (.iaload, 1) := by decide +kernel
theorem dX12_searches_71 : decode cX12_searches 71 = .ok (.iadd, 1) := by decide +kernel
theorem dX12_searches_72 : decode cX12_searches 72 = .ok (.if_icmp .ge 53, 3) := by decide +kernel
theorem dX12_searches_75 : decode cX12_searches 75 = .ok (.iload_n 3, 1) := by decide +kernel
theorem dX12_searches_76 : decode cX12_searches 76 = .ok (.ifCond .eq 49, 3) := by decide +kernel
theorem dX12_searches_79 : decode cX12_searches 79 = .ok (.aload_n 0, 1) := by decide +kernel
theorem dX12_searches_80 : decode cX12_searches 80 = .ok (.getfield 116, 3) := by decide +kernel
theorem dX12_searches_83 : decode cX12_searches 83 = .ok (.iload 4, 2) := by decide +kernel
theorem dX12_searches_85 : decode cX12_searches 85 = .ok (.iaload, 1) := by decide +kernel
theorem dX12_searches_86 : decode cX12_searches 86 = .ok (.iload_n 1, 1) := by decide +kernel
theorem dX12_searches_87 : decode cX12_searches 87 = .ok (.if_icmp .eq 6, 3) := by decide +kernel
theorem dX12_searches_90 : decode cX12_searches 90 = .ok (.goto 29, 3) := by decide +kernel
theorem dX12_searches_93 : decode cX12_searches 93 = .ok (.aload_n 0, 1) := by decide +kernel
theorem dX12_searches_94 : decode cX12_searches 94 = .ok (.getfield 232, 3) := by decide +kernel
theorem dX12_searches_97 : decode cX12_searches 97 = .ok (.aload_n 0, 1) := by decide +kernel
theorem dX12_searches_98 : decode cX12_searches 98 = .ok (.getfield 235, 3) := by decide +kernel
theorem dX12_searches_101 : decode cX12_searches 101 = .ok (.aload_n 0, 1) := by decide +kernel
theorem dX12_searches_102 : decode cX12_searches 102 = .ok (.getfield 119, 3) := by decide +kernel
theorem dX12_searches_105 : decode cX12_searches 105 = .ok (.iload 4, 2) := by decide +kernel
theorem dX12_searches_107 : decode cX12_searches 107 = .ok (.iaload, 1) := by decide +kernel
theorem dX12_searches_108 : decode cX12_searches 108 = .ok (.iastore, 1) := by decide +kernel
theorem dX12_searches_109 : decode cX12_searches 109 = .ok (.aload_n 0, 1) := by decide +kernel
theorem dX12_searches_110 : decode cX12_searches 110 = .ok (.dup, 1) := by decide +kernel
theorem dX12_searches_111 : decode cX12_searches 111 = .ok (.getfield 235, 3) := by decide +kernel
theorem dX12_searches_114 : decode cX12_searches 114 = .ok (.iconst 1, 1) := by decide +kernel
theorem dX12_searches_115 : decode cX12_searches 115 = .ok (.iadd, 1) := by decide +kernel
theorem dX12_searches_116 : decode cX12_searches 116 = .ok (.putfield 235, 3) := by decide +kernel
theorem dX12_searches_119 : decode cX12_searches 119 = .ok (.iinc 4 1, 3) := by decide +kernel
theorem dX12_searches_122 : decode cX12_searches 122 = .ok (.goto (-69), 3) := by decide +kernel
theorem dX12_searches_125 : decode cX12_searches 125 = .ok (.aload_n 0, 1) := by decide +kernel
theorem dX12_searches_126 : decode cX12_searches 126 = .ok (.aload_n 0, 1) := by decide +kernel
theorem dX12_searches_127 : decode cX12_searches 127 = .ok (.iload_n 1, 1) := by decide +kernel
theorem dX12_searches_128 : decode cX12_searches 128 = .ok (.invokevirtual 520, 3) := by decide +kernel
theorem dX12_searches_131 : decode cX12_searches 131 = .ok (.putfield 217, 3) := by decide +kernel
theorem dX12_searches_134 : decode cX12_searches 134 = .ok (.iconst 0, 1) := by decide +kernel
theorem dX12_searches_135 : decode cX12_searches 135 = .ok (.istore 4, 2) := by decide +kernel
theorem dX12_searches_137 : decode cX12_searches 137 = .ok (.iload 4, 2) := by decide +kernel
theorem dX12_searches_139 : decode cX12_searches 139 = .ok (.iconst 4, 1) := by decide +kernel
theorem dX12_searches_140 : decode cX12_searches 140 = .ok (.if_icmp .ge 45, 3) := by decide +kernel
theorem dX12_searches_143 : decode cX12_searches 143 = .ok (.aload_n 0, 1) := by decide +kernel
theorem dX12_searches_144 : decode cX12_searches 144 = .ok (.getfield 220, 3) := by decide +kernel
theorem dX12_searches_147 : decode cX12_searches 147 = .ok (.iload 4, 2) := by decide +kernel
theorem dX12_searches_149 : decode cX12_searches 149 = .ok (.iload 4, 2) := by decide +kernel
theorem dX12_searches_151 : decode cX12_searches 151 = .ok (.aload_n 0, 1) := by decide +kernel
theorem dX12_searches_152 : decode cX12_searches 152 = .ok (.getfield 80, 3) := by decide +kernel
theorem dX12_searches_155 : decode cX12_searches 155 = .ok (.aload_n 0, 1) := by decide +kernel
theorem dX12_searches_156 : decode cX12_searches 156 = .ok (.getfield 48, 3) := by decide +kernel
theorem dX12_searches_159 : decode cX12_searches 159 = .ok (.iaload, 1) := by decide +kernel
theorem dX12_searches_160 : decode cX12_searches 160 = .ok (.if_icmp .ge 17, 3) := by decide +kernel
theorem dX12_searches_163 : decode cX12_searches 163 = .ok (.aload_n 0, 1) := by decide +kernel
theorem dX12_searches_164 : decode cX12_searches 164 = .ok (.getfield 89, 3) := by decide +kernel
theorem dX12_searches_167 : decode cX12_searches 167 = .ok (.aload_n 0, 1) := by decide +kernel
theorem dX12_searches_168 : decode cX12_searches 168 = .ok (.iload 4, 2) := by decide +kernel
theorem dX12_searches_170 : decode cX12_searches 170 = .ok (.invokevirtual 484, 3) := by decide +kernel
theorem dX12_searches_173 : decode cX12_searches 173 = .ok (.iaload, 1) := by decide +kernel
theorem dX12_searches_174 : decode cX12_searches 174 = .ok (.goto 4, 3) := by decide +kernel
theorem dX12_searches_177 : decode cX12_searches 177 = .ok (.iconst 0, 1) := by decide +kernel
theorem dX12_searches_178 : decode cX12_searches 178 = .ok (.iastore, 1) := by decide +kernel
theorem dX12_searches_179 : decode cX12_searches 179 = .ok (.iinc 4 1, 3) := by decide +kernel
theorem dX12_searches_182 : decode cX12_searches 182 = .ok (.goto (-45), 3) := by decide +kernel
theorem dX12_searches_185 : decode cX12_searches 185 = .ok (.aload_n 0, 1) := by decide +kernel
theorem dX12_searches_186 : decode cX12_searches 186 = .ok (.iconst 0, 1) := by decide +kernel
theorem dX12_searches_187 : decode cX12_searches 187 = .ok (.putfield 223, 3) := by decide +kernel
theorem dX12_searches_190 : decode cX12_searches 190 = .ok (.aload_n 0, 1) := by decide +kernel
theorem dX12_searches_191 : decode cX12_searches 191 = .ok (.iconst 0, 1) := by decide +kernel
theorem dX12_searches_192 : decode cX12_searches 192 = .ok (.invokevirtual 576, 3) := by decide +kernel
theorem dX12_searches_195 : decode cX12_searches 195 = .ok (.iconst 0, 1) := by decide +kernel
theorem dX12_searches_196 : decode cX12_searches 196 = .ok (.istore 4, 2) := by decide +kernel
theorem dX12_searches_198 : decode cX12_searches 198 = .ok (.iload 4, 2) := by decide +kernel
theorem dX12_searches_200 : decode cX12_searches 200 = .ok (.aload_n 0, 1) := by decide +kernel
theorem dX12_searches_201 : decode cX12_searches 201 = .ok (.getfield 214, 3) := by decide +kernel
theorem dX12_searches_204 : decode cX12_searches 204 = .ok (.if_icmp .ge 20, 3) := by decide +kernel
theorem dX12_searches_207 : decode cX12_searches 207 = .ok (.aload_n 0, 1) := by decide +kernel
theorem dX12_searches_208 : decode cX12_searches 208 = .ok (.aload_n 0, 1) := by decide +kernel
theorem dX12_searches_209 : decode cX12_searches 209 = .ok (.getfield 211, 3) := by decide +kernel
theorem dX12_searches_212 : decode cX12_searches 212 = .ok (.iload 4, 2) := by decide +kernel
theorem dX12_searches_214 : decode cX12_searches 214 = .ok (.iaload, 1) := by decide +kernel
theorem dX12_searches_215 : decode cX12_searches 215 = .ok (.invokevirtual 579, 3) := by decide +kernel
theorem dX12_searches_218 : decode cX12_searches 218 = .ok (.iinc 4 1, 3) := by decide +kernel
theorem dX12_searches_221 : decode cX12_searches 221 = .ok (.goto (-23), 3) := by decide +kernel
theorem dX12_searches_224 : decode cX12_searches 224 = .ok (.return_, 1) := by decide +kernel
theorem dX12_goesOn__0 : decode cX12_goesOn_ 0 = .ok (.aload_n 0, 1) := by decide +kernel
theorem dX12_goesOn__1 : decode cX12_goesOn_ 1 = .ok (.getfield 208, 3) := by decide +kernel
theorem dX12_goesOn__4 : decode cX12_goesOn_ 4 = .ok (.iload_n 1, 1) := by decide +kernel
theorem dX12_goesOn__5 : decode cX12_goesOn_ 5 = .ok (.iaload, 1) := by decide +kernel
theorem dX12_goesOn__6 : decode cX12_goesOn_ 6 = .ok (.iconst 1, 1) := by decide +kernel
theorem dX12_goesOn__7 : decode cX12_goesOn_ 7 = .ok (.iadd, 1) := by decide +kernel
theorem dX12_goesOn__8 : decode cX12_goesOn_ 8 = .ok (.istore_n 2, 1) := by decide +kernel
theorem dX12_goesOn__9 : decode cX12_goesOn_ 9 = .ok (.aload_n 0, 1) := by decide +kernel
theorem dX12_goesOn__10 : decode cX12_goesOn_ 10 = .ok (.iload_n 1, 1) := by decide +kernel
theorem dX12_goesOn__11 : decode cX12_goesOn_ 11 = .ok (.invokevirtual 581, 3) := by decide +kernel
theorem dX12_goesOn__14 : decode cX12_goesOn_ 14 = .ok (.aload_n 0, 1) := by decide +kernel
theorem dX12_goesOn__15 : decode cX12_goesOn_ 15 = .ok (.invokevirtual 584, 3) := by decide +kernel
theorem dX12_goesOn__18 : decode cX12_goesOn_ 18 = .ok (.istore_n 3, 1) := by decide +kernel
theorem dX12_goesOn__19 : decode cX12_goesOn_ 19 = .ok (.iconst 0, 1) := by decide +kernel
theorem dX12_goesOn__20 : decode cX12_goesOn_ 20 = .ok (.istore 4, 2) := by decide +kernel
theorem dX12_goesOn__22 : decode cX12_goesOn_ 22 = .ok (.iload 4, 2) := by decide +kernel
theorem dX12_goesOn__24 : decode cX12_goesOn_ 24 = .ok (.aload_n 0, 1) := by decide +kernel
theorem dX12_goesOn__25 : decode cX12_goesOn_ 25 = .ok (.getfield 58, 3) := by decide +kernel
theorem dX12_goesOn__28 : decode cX12_goesOn_ 28 = .ok (.aload_n 0, 1) := by decide +kernel
theorem dX12_goesOn__29 : decode cX12_goesOn_ 29 = .ok (.getfield 48, 3) := by decide +kernel
theorem dX12_goesOn__32 : decode cX12_goesOn_ 32 = .ok (.iaload, 1) := by decide +kernel
theorem dX12_goesOn__33 : decode cX12_goesOn_ 33 = .ok (.if_icmp .ge 97, 3) := by decide +kernel
theorem dX12_goesOn__36 : decode cX12_goesOn_ 36 = .ok (.aload_n 0, 1) := by decide +kernel
theorem dX12_goesOn__37 : decode cX12_goesOn_ 37 = .ok (.iload_n 1, 1) := by decide +kernel
theorem dX12_goesOn__38 : decode cX12_goesOn_ 38 = .ok (.invokevirtual 581, 3) := by decide +kernel
theorem dX12_goesOn__41 : decode cX12_goesOn_ 41 = .ok (.aload_n 0, 1) := by decide +kernel
theorem dX12_goesOn__42 : decode cX12_goesOn_ 42 = .ok (.getfield 70, 3) := by decide +kernel
theorem dX12_goesOn__45 : decode cX12_goesOn_ 45 = .ok (.aload_n 0, 1) := by decide +kernel
theorem dX12_goesOn__46 : decode cX12_goesOn_ 46 = .ok (.iload 4, 2) := by decide +kernel
theorem dX12_goesOn__48 : decode cX12_goesOn_ 48 = .ok (.invokevirtual 487, 3) := by decide +kernel
theorem dX12_goesOn__51 : decode cX12_goesOn_ 51 = .ok (.baload, 1) := by decide +kernel
theorem dX12_goesOn__52 : decode cX12_goesOn_ 52 = .ok (.ifCond .ne 72, 3) := by decide +kernel
theorem dX12_goesOn__55 : decode cX12_goesOn_ 55 = .ok (.aload_n 0, 1) := by decide +kernel
theorem dX12_goesOn__56 : decode cX12_goesOn_ 56 = .ok (.aload_n 0, 1) := by decide +kernel
theorem dX12_goesOn__57 : decode cX12_goesOn_ 57 = .ok (.getfield 217, 3) := by decide +kernel
theorem dX12_goesOn__60 : decode cX12_goesOn_ 60 = .ok (.iload 4, 2) := by decide +kernel
theorem dX12_goesOn__62 : decode cX12_goesOn_ 62 = .ok (.invokevirtual 523, 3) := by decide +kernel
theorem dX12_goesOn__65 : decode cX12_goesOn_ 65 = .ok (.ifCond .eq 59, 3) := by decide +kernel
theorem dX12_goesOn__68 : decode cX12_goesOn_ 68 = .ok (.aload_n 0, 1) := by decide +kernel
theorem dX12_goesOn__69 : decode cX12_goesOn_ 69 = .ok (.iload 4, 2) := by decide +kernel
theorem dX12_goesOn__71 : decode cX12_goesOn_ 71 = .ok (.invokevirtual 567, 3) := by decide +kernel
theorem dX12_goesOn__74 : decode cX12_goesOn_ 74 = .ok (.ifCond .ne 50, 3) := by decide +kernel
theorem dX12_goesOn__77 : decode cX12_goesOn_ 77 = .ok (.aload_n 0, 1) := by decide +kernel
theorem dX12_goesOn__78 : decode cX12_goesOn_ 78 = .ok (.iload 4, 2) := by decide +kernel
theorem dX12_goesOn__80 : decode cX12_goesOn_ 80 = .ok (.aload_n 0, 1) := by decide +kernel
theorem dX12_goesOn__81 : decode cX12_goesOn_ 81 = .ok (.getfield 226, 3) := by decide +kernel
theorem dX12_goesOn__84 : decode cX12_goesOn_ 84 = .ok (.aload_n 0, 1) := by decide +kernel
theorem dX12_goesOn__85 : decode cX12_goesOn_ 85 = .ok (.getfield 217, 3) := by decide +kernel
theorem dX12_goesOn__88 : decode cX12_goesOn_ 88 = .ok (.aload_n 0, 1) := by decide +kernel
theorem dX12_goesOn__89 : decode cX12_goesOn_ 89 = .ok (.getfield 229, 3) := by decide +kernel
theorem dX12_goesOn__92 : decode cX12_goesOn_ 92 = .ok (.invokestatic 529, 3) := by decide +kernel
theorem dX12_goesOn__95 : decode cX12_goesOn_ 95 = .ok (.iload_n 3, 1) := by decide +kernel
theorem dX12_goesOn__96 : decode cX12_goesOn_ 96 = .ok (.invokevirtual 532, 3) := by decide +kernel
theorem dX12_goesOn__99 : decode cX12_goesOn_ 99 = .ok (.ifCond .eq 6, 3) := by decide +kernel
theorem dX12_goesOn__102 : decode cX12_goesOn_ 102 = .ok (.goto 22, 3) := by decide +kernel
theorem dX12_goesOn__105 : decode cX12_goesOn_ 105 = .ok (.aload_n 0, 1) := by decide +kernel
theorem dX12_goesOn__106 : decode cX12_goesOn_ 106 = .ok (.aload_n 0, 1) := by decide +kernel
theorem dX12_goesOn__107 : decode cX12_goesOn_ 107 = .ok (.iload 4, 2) := by decide +kernel
theorem dX12_goesOn__109 : decode cX12_goesOn_ 109 = .ok (.aload_n 0, 1) := by decide +kernel
theorem dX12_goesOn__110 : decode cX12_goesOn_ 110 = .ok (.getfield 217, 3) := by decide +kernel
theorem dX12_goesOn__113 : decode cX12_goesOn_ 113 = .ok (.invokevirtual 536, 3) := by decide +kernel
theorem dX12_goesOn__116 : decode cX12_goesOn_ 116 = .ok (.putfield 217, 3) := by decide +kernel
theorem dX12_goesOn__119 : decode cX12_goesOn_ 119 = .ok (.aload_n 0, 1) := by decide +kernel
theorem dX12_goesOn__120 : decode cX12_goesOn_ 120 = .ok (.iload_n 2, 1) := by decide +kernel
theorem dX12_goesOn__121 : decode cX12_goesOn_ 121 = .ok (.invokevirtual 576, 3) := by decide +kernel
theorem dX12_goesOn__124 : decode cX12_goesOn_ 124 = .ok (.iinc 4 1, 3) := by decide +kernel
theorem dX12_goesOn__127 : decode cX12_goesOn_ 127 = .ok (.goto (-105), 3) := by decide +kernel
theorem dX12_goesOn__130 : decode cX12_goesOn_ 130 = .ok (.iconst 0, 1) := by decide +kernel
theorem dX12_goesOn__131 : decode cX12_goesOn_ 131 = .ok (.istore 4, 2) := by decide +kernel
theorem dX12_goesOn__133 : decode cX12_goesOn_ 133 = .ok (.iload 4, 2) := by decide +kernel
theorem dX12_goesOn__135 : decode cX12_goesOn_ 135 = .ok (.aload_n 0, 1) := by decide +kernel
theorem dX12_goesOn__136 : decode cX12_goesOn_ 136 = .ok (.getfield 80, 3) := by decide +kernel
theorem dX12_goesOn__139 : decode cX12_goesOn_ 139 = .ok (.aload_n 0, 1) := by decide +kernel
theorem dX12_goesOn__140 : decode cX12_goesOn_ 140 = .ok (.getfield 48, 3) := by decide +kernel
theorem dX12_goesOn__143 : decode cX12_goesOn_ 143 = .ok (.iaload, 1) := by decide +kernel
theorem dX12_goesOn__144 : decode cX12_goesOn_ 144 = .ok (.if_icmp .ge 90, 3) := by decide +kernel
theorem dX12_goesOn__147 : decode cX12_goesOn_ 147 = .ok (.aload_n 0, 1) := by decide +kernel
theorem dX12_goesOn__148 : decode cX12_goesOn_ 148 = .ok (.iload_n 1, 1) := by decide +kernel
theorem dX12_goesOn__149 : decode cX12_goesOn_ 149 = .ok (.invokevirtual 581, 3) := by decide +kernel
theorem dX12_goesOn__152 : decode cX12_goesOn_ 152 = .ok (.aload_n 0, 1) := by decide +kernel
theorem dX12_goesOn__153 : decode cX12_goesOn_ 153 = .ok (.getfield 229, 3) := by decide +kernel
theorem dX12_goesOn__156 : decode cX12_goesOn_ 156 = .ok (.iload 4, 2) := by decide +kernel
theorem dX12_goesOn__158 : decode cX12_goesOn_ 158 = .ok (.ishr, 1) := by decide +kernel
theorem dX12_goesOn__159 : decode cX12_goesOn_ 159 = .ok (.iconst 1, 1) := by decide +kernel
theorem dX12_goesOn__160 : decode cX12_goesOn_ 160 = .ok (.iand, 1) := by decide +kernel
theorem dX12_goesOn__161 : decode cX12_goesOn_ 161 = .ok (.ifCond .eq 67, 3) := by decide +kernel
theorem dX12_goesOn__164 : decode cX12_goesOn_ 164 = .ok (.aload_n 0, 1) := by decide +kernel
theorem dX12_goesOn__165 : decode cX12_goesOn_ 165 = .ok (.getfield 220, 3) := by decide +kernel
theorem dX12_goesOn__168 : decode cX12_goesOn_ 168 = .ok (.iload 4, 2) := by decide +kernel
theorem dX12_goesOn__170 : decode cX12_goesOn_ 170 = .ok (.iaload, 1) := by decide +kernel
theorem dX12_goesOn__171 : decode cX12_goesOn_ 171 = .ok (.ifCond .eq 57, 3) := by decide +kernel
theorem dX12_goesOn__174 : decode cX12_goesOn_ 174 = .ok (.aload_n 0, 1) := by decide +kernel
theorem dX12_goesOn__175 : decode cX12_goesOn_ 175 = .ok (.aload_n 0, 1) := by decide +kernel
theorem dX12_goesOn__176 : decode cX12_goesOn_ 176 = .ok (.getfield 217, 3) := by decide +kernel
theorem dX12_goesOn__179 : decode cX12_goesOn_ 179 = .ok (.aload_n 0, 1) := by decide +kernel
theorem dX12_goesOn__180 : decode cX12_goesOn_ 180 = .ok (.getfield 92, 3) := by decide +kernel
theorem dX12_goesOn__183 : decode cX12_goesOn_ 183 = .ok (.bipush 10, 2) := by decide +kernel
theorem dX12_goesOn__185 : decode cX12_goesOn_ 185 = .ok (.aload_n 0, 1) := by decide +kernel
theorem dX12_goesOn__186 : decode cX12_goesOn_ 186 = .ok (.iload 4, 2) := by decide +kernel
theorem dX12_goesOn__188 : decode cX12_goesOn_ 188 = .ok (.invokevirtual 484, 3) := by decide +kernel
theorem dX12_goesOn__191 : decode cX12_goesOn_ 191 = .ok (.imul, 1) := by decide +kernel
theorem dX12_goesOn__192 : decode cX12_goesOn_ 192 = .ok (.aload_n 0, 1) := by decide +kernel
theorem dX12_goesOn__193 : decode cX12_goesOn_ 193 = .ok (.getfield 220, 3) := by decide +kernel
theorem dX12_goesOn__196 : decode cX12_goesOn_ 196 = .ok (.iload 4, 2) := by decide +kernel
theorem dX12_goesOn__198 : decode cX12_goesOn_ 198 = .ok (.iaload, 1) := by decide +kernel
theorem dX12_goesOn__199 : decode cX12_goesOn_ 199 = .ok (.iadd, 1) := by decide +kernel
theorem dX12_goesOn__200 : decode cX12_goesOn_ 200 = .ok (.iconst 1, 1) := by decide +kernel
theorem dX12_goesOn__201 : decode cX12_goesOn_ 201 = .ok (.isub, 1) := by decide +kernel
theorem dX12_goesOn__202 : decode cX12_goesOn_ 202 = .ok (.iaload, 1) := by decide +kernel
theorem dX12_goesOn__203 : decode cX12_goesOn_ 203 = .ok (.invokevirtual 523, 3) := by decide +kernel
theorem dX12_goesOn__206 : decode cX12_goesOn_ 206 = .ok (.ifCond .ne 6, 3) := by decide +kernel
theorem dX12_goesOn__209 : decode cX12_goesOn_ 209 = .ok (.goto 19, 3) := by decide +kernel
theorem dX12_goesOn__212 : decode cX12_goesOn_ 212 = .ok (.aload_n 0, 1) := by decide +kernel
theorem dX12_goesOn__213 : decode cX12_goesOn_ 213 = .ok (.getfield 220, 3) := by decide +kernel
theorem dX12_goesOn__216 : decode cX12_goesOn_ 216 = .ok (.iload 4, 2) := by decide +kernel
theorem dX12_goesOn__218 : decode cX12_goesOn_ 218 = .ok (.dup2, 1) := by decide +kernel
theorem dX12_goesOn__219 : decode cX12_goesOn_ 219 = .ok (.iaload, 1) := by decide +kernel
theorem dX12_goesOn__220 : decode cX12_goesOn_ 220 = .ok (.iconst 1, 1) := by decide +kernel
theorem dX12_goesOn__221 : decode cX12_goesOn_ 221 = .ok (.isub, 1) := by decide +kernel
theorem dX12_goesOn__222 : decode cX12_goesOn_ 222 = .ok (.iastore, 1) := by decide +kernel
theorem dX12_goesOn__223 : decode cX12_goesOn_ 223 = .ok (.aload_n 0, 1) := by decide +kernel
theorem dX12_goesOn__224 : decode cX12_goesOn_ 224 = .ok (.iload_n 2, 1) := by decide +kernel
theorem dX12_goesOn__225 : decode cX12_goesOn_ 225 = .ok (.invokevirtual 576, 3) := by decide +kernel
theorem dX12_goesOn__228 : decode cX12_goesOn_ 228 = .ok (.iinc 4 1, 3) := by decide +kernel
theorem dX12_goesOn__231 : decode cX12_goesOn_ 231 = .ok (.goto (-98), 3) := by decide +kernel
theorem dX12_goesOn__234 : decode cX12_goesOn_ 234 = .ok (.return_, 1) := by decide +kernel
