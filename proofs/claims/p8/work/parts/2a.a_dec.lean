theorem dX0_prepareWants_0 : decode cX0_prepareWants 0 = .ok (.aload_n 0, 1) := by decide +kernel
theorem dX0_prepareWants_1 : decode cX0_prepareWants 1 = .ok (.iconst 0, 1) := by decide +kernel
theorem dX0_prepareWants_2 : decode cX0_prepareWants 2 = .ok (.putfield 42, 3) := by decide +kernel
theorem dX0_prepareWants_5 : decode cX0_prepareWants 5 = .ok (.aload_n 0, 1) := by decide +kernel
theorem dX0_prepareWants_6 : decode cX0_prepareWants 6 = .ok (.getfield 55, 3) := by decide +kernel
theorem dX0_prepareWants_9 : decode cX0_prepareWants 9 = .ok (.iconst 2, 1) := by decide +kernel
theorem dX0_prepareWants_10 : decode cX0_prepareWants 10 = .ok (.if_icmp .eq 4, 3) := by decide +kernel
theorem dX0_prepareWants_13 : decode cX0_prepareWants 13 = .ok (.return_, 1) := by decide +kernel
theorem dX0_prepareWants_14 : decode cX0_prepareWants 14 = .ok (.iconst 0, 1) := by decide +kernel
theorem dX0_prepareWants_15 : decode cX0_prepareWants 15 = .ok (.istore_n 3, 1) := by decide +kernel
theorem dX0_prepareWants_16 : decode cX0_prepareWants 16 = .ok (.iload_n 3, 1) := by decide +kernel
theorem dX0_prepareWants_17 : decode cX0_prepareWants 17 = .ok (.aload_n 1, 1) := by decide +kernel
theorem dX0_prepareWants_18 : decode cX0_prepareWants 18 = .ok (.getfield 73, 3) := by decide +kernel
theorem dX0_prepareWants_21 : decode cX0_prepareWants 21 = .ok (.iconst 4, 1) := by decide +kernel
theorem dX0_prepareWants_22 : decode cX0_prepareWants 22 = .ok (.iaload, 1) := by decide +kernel
theorem dX0_prepareWants_23 : decode cX0_prepareWants 23 = .ok (.if_icmp .ge 55, 3) := by decide +kernel
theorem dX0_prepareWants_26 : decode cX0_prepareWants 26 = .ok (.aload_n 1, 1) := by decide +kernel
theorem dX0_prepareWants_27 : decode cX0_prepareWants 27 = .ok (.getfield 130, 3) := by decide +kernel
theorem dX0_prepareWants_30 : decode cX0_prepareWants 30 = .ok (.iload_n 2, 1) := by decide +kernel
theorem dX0_prepareWants_31 : decode cX0_prepareWants 31 = .ok (.iaload, 1) := by decide +kernel
theorem dX0_prepareWants_32 : decode cX0_prepareWants 32 = .ok (.iload_n 3, 1) := by decide +kernel
theorem dX0_prepareWants_33 : decode cX0_prepareWants 33 = .ok (.ishr, 1) := by decide +kernel
theorem dX0_prepareWants_34 : decode cX0_prepareWants 34 = .ok (.iconst 1, 1) := by decide +kernel
theorem dX0_prepareWants_35 : decode cX0_prepareWants 35 = .ok (.iand, 1) := by decide +kernel
theorem dX0_prepareWants_36 : decode cX0_prepareWants 36 = .ok (.ifCond .eq 36, 3) := by decide +kernel
theorem dX0_prepareWants_39 : decode cX0_prepareWants 39 = .ok (.aload_n 0, 1) := by decide +kernel
theorem dX0_prepareWants_40 : decode cX0_prepareWants 40 = .ok (.getfield 42, 3) := by decide +kernel
theorem dX0_prepareWants_43 : decode cX0_prepareWants 43 = .ok (.iconst 2, 1) := by decide +kernel
theorem dX0_prepareWants_44 : decode cX0_prepareWants 44 = .ok (.if_icmp .ge 28, 3) := by decide +kernel
theorem dX0_prepareWants_47 : decode cX0_prepareWants 47 = .ok (.aload_n 0, 1) := by decide +kernel
theorem dX0_prepareWants_48 : decode cX0_prepareWants 48 = .ok (.getfield 33, 3) := by decide +kernel
theorem dX0_prepareWants_51 : decode cX0_prepareWants 51 = .ok (.aload_n 0, 1) := by decide +kernel
theorem dX0_prepareWants_52 : decode cX0_prepareWants 52 = .ok (.getfield 42, 3) := by decide +kernel
theorem dX0_prepareWants_55 : decode cX0_prepareWants 55 = .ok (.aload_n 1, 1) := by decide +kernel
theorem dX0_prepareWants_56 : decode cX0_prepareWants 56 = .ok (.getfield 133, 3) := by decide +kernel
theorem dX0_prepareWants_59 : decode cX0_prepareWants 59 = .ok (.iload_n 3, 1) := by decide +kernel
theorem dX0_prepareWants_60 : decode cX0_prepareWants 60 = .ok (.iaload, 1) := by decide +kernel
theorem dX0_prepareWants_61 : decode cX0_prepareWants 61 = .ok (.iastore, 1) := by decide +kernel
theorem dX0_prepareWants_62 : decode cX0_prepareWants 62 = .ok (.aload_n 0, 1) := by decide +kernel
theorem dX0_prepareWants_63 : decode cX0_prepareWants 63 = .ok (.dup, 1) := by decide +kernel
theorem dX0_prepareWants_64 : decode cX0_prepareWants 64 = .ok (.getfield 42, 3) := by decide +kernel
theorem dX0_prepareWants_67 : decode cX0_prepareWants 67 = .ok (.iconst 1, 1) := by decide +kernel
theorem dX0_prepareWants_68 : decode cX0_prepareWants 68 = .ok (.iadd, 1) := by decide +kernel
theorem dX0_prepareWants_69 : decode cX0_prepareWants 69 = .ok (.putfield 42, 3) := by decide +kernel
theorem dX0_prepareWants_72 : decode cX0_prepareWants 72 = .ok (.iinc 3 1, 3) := by decide +kernel
theorem dX0_prepareWants_75 : decode cX0_prepareWants 75 = .ok (.goto (-59), 3) := by decide +kernel
theorem dX0_prepareWants_78 : decode cX0_prepareWants 78 = .ok (.return_, 1) := by decide +kernel
theorem dX0_prepareKeys_0 : decode cX0_prepareKeys 0 = .ok (.aload_n 0, 1) := by decide +kernel
theorem dX0_prepareKeys_1 : decode cX0_prepareKeys 1 = .ok (.aload_n 1, 1) := by decide +kernel
theorem dX0_prepareKeys_2 : decode cX0_prepareKeys 2 = .ok (.getfield 136, 3) := by decide +kernel
theorem dX0_prepareKeys_5 : decode cX0_prepareKeys 5 = .ok (.putfield 52, 3) := by decide +kernel
theorem dX0_prepareKeys_8 : decode cX0_prepareKeys 8 = .ok (.aload_n 1, 1) := by decide +kernel
theorem dX0_prepareKeys_9 : decode cX0_prepareKeys 9 = .ok (.getfield 73, 3) := by decide +kernel
theorem dX0_prepareKeys_12 : decode cX0_prepareKeys 12 = .ok (.iconst 0, 1) := by decide +kernel
theorem dX0_prepareKeys_13 : decode cX0_prepareKeys 13 = .ok (.iaload, 1) := by decide +kernel
theorem dX0_prepareKeys_14 : decode cX0_prepareKeys 14 = .ok (.istore_n 3, 1) := by decide +kernel
theorem dX0_prepareKeys_15 : decode cX0_prepareKeys 15 = .ok (.iconst 0, 1) := by decide +kernel
theorem dX0_prepareKeys_16 : decode cX0_prepareKeys 16 = .ok (.istore 4, 2) := by decide +kernel
theorem dX0_prepareKeys_18 : decode cX0_prepareKeys 18 = .ok (.iload 4, 2) := by decide +kernel
theorem dX0_prepareKeys_20 : decode cX0_prepareKeys 20 = .ok (.iconst 4, 1) := by decide +kernel
theorem dX0_prepareKeys_21 : decode cX0_prepareKeys 21 = .ok (.if_icmp .ge 163, 3) := by decide +kernel
theorem dX0_prepareKeys_24 : decode cX0_prepareKeys 24 = .ok (.aload_n 0, 1) := by decide +kernel
theorem dX0_prepareKeys_25 : decode cX0_prepareKeys 25 = .ok (.getfield 20, 3) := by decide +kernel
theorem dX0_prepareKeys_28 : decode cX0_prepareKeys 28 = .ok (.iload 4, 2) := by decide +kernel
theorem dX0_prepareKeys_30 : decode cX0_prepareKeys 30 = .ok (.iconst 0, 1) := by decide +kernel
theorem dX0_prepareKeys_31 : decode cX0_prepareKeys 31 = .ok (.iastore, 1) := by decide +kernel
theorem dX0_prepareKeys_32 : decode cX0_prepareKeys 32 = .ok (.iload 4, 2) := by decide +kernel
theorem dX0_prepareKeys_34 : decode cX0_prepareKeys 34 = .ok (.aload_n 1, 1) := by decide +kernel
theorem dX0_prepareKeys_35 : decode cX0_prepareKeys 35 = .ok (.getfield 73, 3) := by decide +kernel
theorem dX0_prepareKeys_38 : decode cX0_prepareKeys 38 = .ok (.iconst 2, 1) := by decide +kernel
theorem dX0_prepareKeys_39 : decode cX0_prepareKeys 39 = .ok (.iaload, 1) := by decide +kernel
theorem dX0_prepareKeys_40 : decode cX0_prepareKeys 40 = .ok (.if_icmp .lt 6, 3) := by decide +kernel
theorem dX0_prepareKeys_43 : decode cX0_prepareKeys 43 = .ok (.goto 135, 3) := by decide +kernel
theorem dX0_prepareKeys_46 : decode cX0_prepareKeys 46 = .ok (.iload_n 2, 1) := by decide +kernel
theorem dX0_prepareKeys_47 : decode cX0_prepareKeys 47 = .ok (.iload 4, 2) := by decide +kernel
theorem dX0_prepareKeys_49 : decode cX0_prepareKeys 49 = .ok (.ishr, 1) := by decide +kernel
theorem dX0_prepareKeys_50 : decode cX0_prepareKeys 50 = .ok (.iconst 1, 1) := by decide +kernel
theorem dX0_prepareKeys_51 : decode cX0_prepareKeys 51 = .ok (.iand, 1) := by decide +kernel
theorem dX0_prepareKeys_52 : decode cX0_prepareKeys 52 = .ok (.ifCond .ne 24, 3) := by decide +kernel
theorem dX0_prepareKeys_55 : decode cX0_prepareKeys 55 = .ok (.aload_n 0, 1) := by decide +kernel
theorem dX0_prepareKeys_56 : decode cX0_prepareKeys 56 = .ok (.dup, 1) := by decide +kernel
theorem dX0_prepareKeys_57 : decode cX0_prepareKeys 57 = .ok (.getfield 52, 3) := by decide +kernel
theorem dX0_prepareKeys_60 : decode cX0_prepareKeys 60 = .ok (.aload_n 1, 1) := by decide +kernel
theorem dX0_prepareKeys_61 : decode cX0_prepareKeys 61 = .ok (.getfield 80, 3) := by decide +kernel
theorem dX0_prepareKeys_64 : decode cX0_prepareKeys 64 = .ok (.iload 4, 2) := by decide +kernel
theorem dX0_prepareKeys_66 : decode cX0_prepareKeys 66 = .ok (.invokevirtual 139, 3) := by decide +kernel
theorem dX0_prepareKeys_69 : decode cX0_prepareKeys 69 = .ok (.ior, 1) := by decide +kernel
theorem dX0_prepareKeys_70 : decode cX0_prepareKeys 70 = .ok (.putfield 52, 3) := by decide +kernel
theorem dX0_prepareKeys_73 : decode cX0_prepareKeys 73 = .ok (.goto 105, 3) := by decide +kernel
theorem dX0_prepareKeys_76 : decode cX0_prepareKeys 76 = .ok (.aload_n 0, 1) := by decide +kernel
theorem dX0_prepareKeys_77 : decode cX0_prepareKeys 77 = .ok (.getfield 20, 3) := by decide +kernel
theorem dX0_prepareKeys_80 : decode cX0_prepareKeys 80 = .ok (.iload 4, 2) := by decide +kernel
theorem dX0_prepareKeys_82 : decode cX0_prepareKeys 82 = .ok (.iload_n 3, 1) := by decide +kernel
theorem dX0_prepareKeys_83 : decode cX0_prepareKeys 83 = .ok (.iastore, 1) := by decide +kernel
theorem dX0_prepareKeys_84 : decode cX0_prepareKeys 84 = .ok (.iload_n 3, 1) := by decide +kernel
theorem dX0_prepareKeys_85 : decode cX0_prepareKeys 85 = .ok (.aload_n 1, 1) := by decide +kernel
theorem dX0_prepareKeys_86 : decode cX0_prepareKeys 86 = .ok (.getfield 80, 3) := by decide +kernel
theorem dX0_prepareKeys_89 : decode cX0_prepareKeys 89 = .ok (.getfield 142, 3) := by decide +kernel
theorem dX0_prepareKeys_92 : decode cX0_prepareKeys 92 = .ok (.iload 4, 2) := by decide +kernel
theorem dX0_prepareKeys_94 : decode cX0_prepareKeys 94 = .ok (.iaload, 1) := by decide +kernel
theorem dX0_prepareKeys_95 : decode cX0_prepareKeys 95 = .ok (.iconst 1, 1) := by decide +kernel
theorem dX0_prepareKeys_96 : decode cX0_prepareKeys 96 = .ok (.iadd, 1) := by decide +kernel
theorem dX0_prepareKeys_97 : decode cX0_prepareKeys 97 = .ok (.imul, 1) := by decide +kernel
theorem dX0_prepareKeys_98 : decode cX0_prepareKeys 98 = .ok (.istore_n 3, 1) := by decide +kernel
theorem dX0_prepareKeys_99 : decode cX0_prepareKeys 99 = .ok (.aload_n 0, 1) := by decide +kernel
theorem dX0_prepareKeys_100 : decode cX0_prepareKeys 100 = .ok (.getfield 17, 3) := by decide +kernel
theorem dX0_prepareKeys_103 : decode cX0_prepareKeys 103 = .ok (.iload 4, 2) := by decide +kernel
theorem dX0_prepareKeys_105 : decode cX0_prepareKeys 105 = .ok (.aaload, 1) := by decide +kernel
theorem dX0_prepareKeys_106 : decode cX0_prepareKeys 106 = .ok (.iconst 0, 1) := by decide +kernel
theorem dX0_prepareKeys_107 : decode cX0_prepareKeys 107 = .ok (.iconst 0, 1) := by decide +kernel
theorem dX0_prepareKeys_108 : decode cX0_prepareKeys 108 = .ok (.iastore, 1) := by decide +kernel
theorem dX0_prepareKeys_109 : decode cX0_prepareKeys 109 = .ok (.iconst 0, 1) := by decide +kernel
theorem dX0_prepareKeys_110 : decode cX0_prepareKeys 110 = .ok (.istore 5, 2) := by decide +kernel
theorem dX0_prepareKeys_112 : decode cX0_prepareKeys 112 = .ok (.iload 5, 2) := by decide +kernel
theorem dX0_prepareKeys_114 : decode cX0_prepareKeys 114 = .ok (.aload_n 1, 1) := by decide +kernel
theorem dX0_prepareKeys_115 : decode cX0_prepareKeys 115 = .ok (.getfield 80, 3) := by decide +kernel
theorem dX0_prepareKeys_118 : decode cX0_prepareKeys 118 = .ok (.getfield 142, 3) := by decide +kernel
theorem dX0_prepareKeys_121 : decode cX0_prepareKeys 121 = .ok (.iload 4, 2) := by decide +kernel
theorem dX0_prepareKeys_123 : decode cX0_prepareKeys 123 = .ok (.iaload, 1) := by decide +kernel
theorem dX0_prepareKeys_124 : decode cX0_prepareKeys 124 = .ok (.if_icmp .ge 54, 3) := by decide +kernel
theorem dX0_prepareKeys_127 : decode cX0_prepareKeys 127 = .ok (.iload 5, 2) := by decide +kernel
theorem dX0_prepareKeys_129 : decode cX0_prepareKeys 129 = .ok (.bipush 6, 2) := by decide +kernel
theorem dX0_prepareKeys_131 : decode cX0_prepareKeys 131 = .ok (.if_icmp .ge 47, 3) := by decide +kernel
theorem dX0_prepareKeys_134 : decode cX0_prepareKeys 134 = .ok (.aload_n 0, 1) := by decide +kernel
theorem dX0_prepareKeys_135 : decode cX0_prepareKeys 135 = .ok (.getfield 17, 3) := by decide +kernel
theorem dX0_prepareKeys_138 : decode cX0_prepareKeys 138 = .ok (.iload 4, 2) := by decide +kernel
theorem dX0_prepareKeys_140 : decode cX0_prepareKeys 140 = .ok (.aaload, 1) := by decide +kernel
theorem dX0_prepareKeys_141 : decode cX0_prepareKeys 141 = .ok (.iload 5, 2) := by decide +kernel
theorem dX0_prepareKeys_143 : decode cX0_prepareKeys 143 = .ok (.iconst 1, 1) := by decide +kernel
theorem dX0_prepareKeys_144 : decode cX0_prepareKeys 144 = .ok (.iadd, 1) := by decide +kernel
theorem dX0_prepareKeys_145 : decode cX0_prepareKeys 145 = .ok (.aload_n 0, 1) := by decide +kernel
theorem dX0_prepareKeys_146 : decode cX0_prepareKeys 146 = .ok (.getfield 17, 3) := by decide +kernel
theorem dX0_prepareKeys_149 : decode cX0_prepareKeys 149 = .ok (.iload 4, 2) := by decide +kernel
theorem dX0_prepareKeys_151 : decode cX0_prepareKeys 151 = .ok (.aaload, 1) := by decide +kernel
theorem dX0_prepareKeys_152 : decode cX0_prepareKeys 152 = .ok (.iload 5, 2) := by decide +kernel
theorem dX0_prepareKeys_154 : decode cX0_prepareKeys 154 = .ok (.iaload, 1) := by decide +kernel
theorem dX0_prepareKeys_155 : decode cX0_prepareKeys 155 = .ok (.iconst 1, 1) := by decide +kernel
theorem dX0_prepareKeys_156 : decode cX0_prepareKeys 156 = .ok (.aload_n 1, 1) := by decide +kernel
theorem dX0_prepareKeys_157 : decode cX0_prepareKeys 157 = .ok (.getfield 80, 3) := by decide +kernel
theorem dX0_prepareKeys_160 : decode cX0_prepareKeys 160 = .ok (.getfield 145, 3) := by decide +kernel
theorem dX0_prepareKeys_163 : decode cX0_prepareKeys 163 = .ok (.iload 4, 2) := by decide +kernel
theorem dX0_prepareKeys_165 : decode cX0_prepareKeys 165 = .ok (.aaload, 1) := by decide +kernel
theorem dX0_prepareKeys_166 : decode cX0_prepareKeys 166 = .ok (.iload 5, 2) := by decide +kernel
theorem dX0_prepareKeys_168 : decode cX0_prepareKeys 168 = .ok (.iaload, 1) := by decide +kernel
theorem dX0_prepareKeys_169 : decode cX0_prepareKeys 169 = .ok (.ishl, 1) := by decide +kernel
theorem dX0_prepareKeys_170 : decode cX0_prepareKeys 170 = .ok (.ior, 1) := by decide +kernel
theorem dX0_prepareKeys_171 : decode cX0_prepareKeys 171 = .ok (.iastore, 1) := by decide +kernel
theorem dX0_prepareKeys_172 : decode cX0_prepareKeys 172 = .ok (.iinc 5 1, 3) := by decide +kernel
theorem dX0_prepareKeys_175 : decode cX0_prepareKeys 175 = .ok (.goto (-63), 3) := by decide +kernel
theorem dX0_prepareKeys_178 : decode cX0_prepareKeys 178 = .ok (.iinc 4 1, 3) := by decide +kernel
theorem dX0_prepareKeys_181 : decode cX0_prepareKeys 181 = .ok (.goto (-163), 3) := by decide +kernel
theorem dX0_prepareKeys_184 : decode cX0_prepareKeys 184 = .ok (.aload_n 0, 1) := by decide +kernel
theorem dX0_prepareKeys_185 : decode cX0_prepareKeys 185 = .ok (.iload_n 3, 1) := by decide +kernel
theorem dX0_prepareKeys_186 : decode cX0_prepareKeys 186 = .ok (.putfield 46, 3) := by decide +kernel
theorem dX0_prepareKeys_189 : decode cX0_prepareKeys 189 = .ok (.aload_n 0, 1) := by decide +kernel
theorem dX0_prepareKeys_190 : decode cX0_prepareKeys 190 = .ok (.iload_n 3, 1) := by decide +kernel
theorem dX0_prepareKeys_191 : decode cX0_prepareKeys 191 = .ok (.aload_n 0, 1) := by decide +kernel
theorem dX0_prepareKeys_192 : decode cX0_prepareKeys 192 = .ok (.getfield 42, 3) := by decide +kernel
theorem dX0_prepareKeys_195 : decode cX0_prepareKeys 195 = .ok (.ishl, 1) := by decide +kernel
theorem dX0_prepareKeys_196 : decode cX0_prepareKeys 196 = .ok (.ldc 148, 2) := by decide +kernel
theorem dX0_prepareKeys_198 : decode cX0_prepareKeys 198 = .ok (.invokestatic 149, 3) := by decide +kernel
theorem dX0_prepareKeys_201 : decode cX0_prepareKeys 201 = .ok (.putfield 49, 3) := by decide +kernel
theorem dX0_prepareKeys_204 : decode cX0_prepareKeys 204 = .ok (.return_, 1) := by decide +kernel
theorem dX0_prepareDoors_0 : decode cX0_prepareDoors 0 = .ok (.iconst 0, 1) := by decide +kernel
theorem dX0_prepareDoors_1 : decode cX0_prepareDoors 1 = .ok (.istore_n 2, 1) := by decide +kernel
theorem dX0_prepareDoors_2 : decode cX0_prepareDoors 2 = .ok (.iload_n 2, 1) := by decide +kernel
theorem dX0_prepareDoors_3 : decode cX0_prepareDoors 3 = .ok (.bipush 8, 2) := by decide +kernel
theorem dX0_prepareDoors_5 : decode cX0_prepareDoors 5 = .ok (.if_icmp .ge 63, 3) := by decide +kernel
theorem dX0_prepareDoors_8 : decode cX0_prepareDoors 8 = .ok (.aload_n 0, 1) := by decide +kernel
theorem dX0_prepareDoors_9 : decode cX0_prepareDoors 9 = .ok (.getfield 27, 3) := by decide +kernel
theorem dX0_prepareDoors_12 : decode cX0_prepareDoors 12 = .ok (.iload_n 2, 1) := by decide +kernel
theorem dX0_prepareDoors_13 : decode cX0_prepareDoors 13 = .ok (.iconst 0, 1) := by decide +kernel
theorem dX0_prepareDoors_14 : decode cX0_prepareDoors 14 = .ok (.iastore, 1) := by decide +kernel
theorem dX0_prepareDoors_15 : decode cX0_prepareDoors 15 = .ok (.iconst 0, 1) := by decide +kernel
theorem dX0_prepareDoors_16 : decode cX0_prepareDoors 16 = .ok (.istore_n 3, 1) := by decide +kernel
theorem dX0_prepareDoors_17 : decode cX0_prepareDoors 17 = .ok (.iload_n 3, 1) := by decide +kernel
theorem dX0_prepareDoors_18 : decode cX0_prepareDoors 18 = .ok (.aload_n 1, 1) := by decide +kernel
theorem dX0_prepareDoors_19 : decode cX0_prepareDoors 19 = .ok (.getfield 73, 3) := by decide +kernel
theorem dX0_prepareDoors_22 : decode cX0_prepareDoors 22 = .ok (.iconst 1, 1) := by decide +kernel
theorem dX0_prepareDoors_23 : decode cX0_prepareDoors 23 = .ok (.iaload, 1) := by decide +kernel
theorem dX0_prepareDoors_24 : decode cX0_prepareDoors 24 = .ok (.if_icmp .ge 38, 3) := by decide +kernel
theorem dX0_prepareDoors_27 : decode cX0_prepareDoors 27 = .ok (.aload_n 1, 1) := by decide +kernel
theorem dX0_prepareDoors_28 : decode cX0_prepareDoors 28 = .ok (.iload_n 3, 1) := by decide +kernel
theorem dX0_prepareDoors_29 : decode cX0_prepareDoors 29 = .ok (.invokevirtual 155, 3) := by decide +kernel
theorem dX0_prepareDoors_32 : decode cX0_prepareDoors 32 = .ok (.ifCond .ne 24, 3) := by decide +kernel
theorem dX0_prepareDoors_35 : decode cX0_prepareDoors 35 = .ok (.aload_n 1, 1) := by decide +kernel
theorem dX0_prepareDoors_36 : decode cX0_prepareDoors 36 = .ok (.iload_n 3, 1) := by decide +kernel
theorem dX0_prepareDoors_37 : decode cX0_prepareDoors 37 = .ok (.iload_n 2, 1) := by decide +kernel
theorem dX0_prepareDoors_38 : decode cX0_prepareDoors 38 = .ok (.invokevirtual 159, 3) := by decide +kernel
theorem dX0_prepareDoors_41 : decode cX0_prepareDoors 41 = .ok (.ifCond .eq 15, 3) := by decide +kernel
theorem dX0_prepareDoors_44 : decode cX0_prepareDoors 44 = .ok (.aload_n 0, 1) := by decide +kernel
theorem dX0_prepareDoors_45 : decode cX0_prepareDoors 45 = .ok (.getfield 27, 3) := by decide +kernel
theorem dX0_prepareDoors_48 : decode cX0_prepareDoors 48 = .ok (.iload_n 2, 1) := by decide +kernel
theorem dX0_prepareDoors_49 : decode cX0_prepareDoors 49 = .ok (.dup2, 1) := by decide +kernel
theorem dX0_prepareDoors_50 : decode cX0_prepareDoors 50 = .ok (.iaload, 1) := by decide +kernel
theorem dX0_prepareDoors_51 : decode cX0_prepareDoors 51 = .ok (.iconst 1, 1) := by decide +kernel
theorem dX0_prepareDoors_52 : decode cX0_prepareDoors 52 = .ok (.iload_n 3, 1) := by decide +kernel
theorem dX0_prepareDoors_53 : decode cX0_prepareDoors 53 = .ok (.ishl, 1) := by decide +kernel
theorem dX0_prepareDoors_54 : decode cX0_prepareDoors 54 = .ok (.ior, 1) := by decide +kernel
theorem dX0_prepareDoors_55 : decode cX0_prepareDoors 55 = .ok (.iastore, 1) := by decide +kernel
theorem dX0_prepareDoors_56 : decode cX0_prepareDoors 56 = .ok (.iinc 3 1, 3) := by decide +kernel
theorem dX0_prepareDoors_59 : decode cX0_prepareDoors 59 = .ok (.goto (-42), 3) := by decide +kernel
theorem dX0_prepareDoors_62 : decode cX0_prepareDoors 62 = .ok (.iinc 2 1, 3) := by decide +kernel
theorem dX0_prepareDoors_65 : decode cX0_prepareDoors 65 = .ok (.goto (-63), 3) := by decide +kernel
theorem dX0_prepareDoors_68 : decode cX0_prepareDoors 68 = .ok (.return_, 1) := by decide +kernel
theorem dX6_inRow_0 : decode cX6_inRow 0 = .ok (.iload_n 1, 1) := by decide +kernel
theorem dX6_inRow_1 : decode cX6_inRow 1 = .ok (.ifCond .lt 28, 3) := by decide +kernel
theorem dX6_inRow_4 : decode cX6_inRow 4 = .ok (.iload_n 1, 1) := by decide +kernel
theorem dX6_inRow_5 : decode cX6_inRow 5 = .ok (.iconst 4, 1) := by decide +kernel
theorem dX6_inRow_6 : decode cX6_inRow 6 = .ok (.if_icmp .ge 23, 3) := by decide +kernel
theorem dX6_inRow_9 : decode cX6_inRow 9 = .ok (.iload_n 2, 1) := by decide +kernel
theorem dX6_inRow_10 : decode cX6_inRow 10 = .ok (.ifCond .lt 19, 3) := by decide +kernel
theorem dX6_inRow_13 : decode cX6_inRow 13 = .ok (.iload_n 2, 1) := by decide +kernel
theorem dX6_inRow_14 : decode cX6_inRow 14 = .ok (.aload_n 0, 1) := by decide +kernel
theorem dX6_inRow_15 : decode cX6_inRow 15 = .ok (.getfield 18, 3) := by decide +kernel
theorem dX6_inRow_18 : decode cX6_inRow 18 = .ok (.iload_n 1, 1) := by decide +kernel
theorem dX6_inRow_19 : decode cX6_inRow 19 = .ok (.iaload, 1) := by decide +kernel
theorem dX6_inRow_20 : decode cX6_inRow 20 = .ok (.if_icmp .ge 9, 3) := by decide +kernel
theorem dX6_inRow_23 : decode cX6_inRow 23 = .ok (.iload_n 2, 1) := by decide +kernel
theorem dX6_inRow_24 : decode cX6_inRow 24 = .ok (.bipush 6, 2) := by decide +kernel
theorem dX6_inRow_26 : decode cX6_inRow 26 = .ok (.if_icmp .lt 5, 3) := by decide +kernel
theorem dX6_inRow_29 : decode cX6_inRow 29 = .ok (.iconst (-1), 1) := by decide +kernel
theorem dX6_inRow_30 : decode cX6_inRow 30 = .ok (.ireturn, 1) := by decide +kernel
theorem dX6_inRow_31 : decode cX6_inRow 31 = .ok (.aload_n 0, 1) := by decide +kernel
theorem dX6_inRow_32 : decode cX6_inRow 32 = .ok (.getfield 23, 3) := by decide +kernel
theorem dX6_inRow_35 : decode cX6_inRow 35 = .ok (.iload_n 1, 1) := by decide +kernel
theorem dX6_inRow_36 : decode cX6_inRow 36 = .ok (.aaload, 1) := by decide +kernel
theorem dX6_inRow_37 : decode cX6_inRow 37 = .ok (.iload_n 2, 1) := by decide +kernel
theorem dX6_inRow_38 : decode cX6_inRow 38 = .ok (.iaload, 1) := by decide +kernel
theorem dX6_inRow_39 : decode cX6_inRow 39 = .ok (.ireturn, 1) := by decide +kernel
theorem dX6_rowMask_0 : decode cX6_rowMask 0 = .ok (.iconst 0, 1) := by decide +kernel
theorem dX6_rowMask_1 : decode cX6_rowMask 1 = .ok (.istore_n 2, 1) := by decide +kernel
theorem dX6_rowMask_2 : decode cX6_rowMask 2 = .ok (.iconst 0, 1) := by decide +kernel
theorem dX6_rowMask_3 : decode cX6_rowMask 3 = .ok (.istore_n 3, 1) := by decide +kernel
theorem dX6_rowMask_4 : decode cX6_rowMask 4 = .ok (.iload_n 3, 1) := by decide +kernel
theorem dX6_rowMask_5 : decode cX6_rowMask 5 = .ok (.bipush 6, 2) := by decide +kernel
theorem dX6_rowMask_7 : decode cX6_rowMask 7 = .ok (.if_icmp .ge 30, 3) := by decide +kernel
theorem dX6_rowMask_10 : decode cX6_rowMask 10 = .ok (.aload_n 0, 1) := by decide +kernel
theorem dX6_rowMask_11 : decode cX6_rowMask 11 = .ok (.iload_n 1, 1) := by decide +kernel
theorem dX6_rowMask_12 : decode cX6_rowMask 12 = .ok (.iload_n 3, 1) := by decide +kernel
theorem dX6_rowMask_13 : decode cX6_rowMask 13 = .ok (.invokevirtual 26, 3) := by decide +kernel
theorem dX6_rowMask_16 : decode cX6_rowMask 16 = .ok (.istore 4, 2) := by decide +kernel
theorem dX6_rowMask_18 : decode cX6_rowMask 18 = .ok (.iload 4, 2) := by decide +kernel
theorem dX6_rowMask_20 : decode cX6_rowMask 20 = .ok (.iconst (-1), 1) := by decide +kernel
theorem dX6_rowMask_21 : decode cX6_rowMask 21 = .ok (.if_icmp .eq 10, 3) := by decide +kernel
theorem dX6_rowMask_24 : decode cX6_rowMask 24 = .ok (.iload_n 2, 1) := by decide +kernel
theorem dX6_rowMask_25 : decode cX6_rowMask 25 = .ok (.iconst 1, 1) := by decide +kernel
theorem dX6_rowMask_26 : decode cX6_rowMask 26 = .ok (.iload 4, 2) := by decide +kernel
theorem dX6_rowMask_28 : decode cX6_rowMask 28 = .ok (.ishl, 1) := by decide +kernel
theorem dX6_rowMask_29 : decode cX6_rowMask 29 = .ok (.ior, 1) := by decide +kernel
theorem dX6_rowMask_30 : decode cX6_rowMask 30 = .ok (.istore_n 2, 1) := by decide +kernel
theorem dX6_rowMask_31 : decode cX6_rowMask 31 = .ok (.iinc 3 1, 3) := by decide +kernel
theorem dX6_rowMask_34 : decode cX6_rowMask 34 = .ok (.goto (-30), 3) := by decide +kernel
theorem dX6_rowMask_37 : decode cX6_rowMask 37 = .ok (.iload_n 2, 1) := by decide +kernel
theorem dX6_rowMask_38 : decode cX6_rowMask 38 = .ok (.ireturn, 1) := by decide +kernel
theorem dX9_isThere_0 : decode cX9_isThere 0 = .ok (.iload_n 1, 1) := by decide +kernel
theorem dX9_isThere_1 : decode cX9_isThere 1 = .ok (.ifCond .lt 27, 3) := by decide +kernel
theorem dX9_isThere_4 : decode cX9_isThere 4 = .ok (.iload_n 1, 1) := by decide +kernel
theorem dX9_isThere_5 : decode cX9_isThere 5 = .ok (.bipush 8, 2) := by decide +kernel
theorem dX9_isThere_7 : decode cX9_isThere 7 = .ok (.if_icmp .ge 21, 3) := by decide +kernel
theorem dX9_isThere_10 : decode cX9_isThere 10 = .ok (.iload_n 2, 1) := by decide +kernel
theorem dX9_isThere_11 : decode cX9_isThere 11 = .ok (.ifCond .lt 17, 3) := by decide +kernel
theorem dX9_isThere_14 : decode cX9_isThere 14 = .ok (.iload_n 2, 1) := by decide +kernel
theorem dX9_isThere_15 : decode cX9_isThere 15 = .ok (.aload_n 0, 1) := by decide +kernel
theorem dX9_isThere_16 : decode cX9_isThere 16 = .ok (.getfield 9, 3) := by decide +kernel
theorem dX9_isThere_19 : decode cX9_isThere 19 = .ok (.iload_n 1, 1) := by decide +kernel
theorem dX9_isThere_20 : decode cX9_isThere 20 = .ok (.iaload, 1) := by decide +kernel
theorem dX9_isThere_21 : decode cX9_isThere 21 = .ok (.if_icmp .ge 7, 3) := by decide +kernel
theorem dX9_isThere_24 : decode cX9_isThere 24 = .ok (.iconst 1, 1) := by decide +kernel
theorem dX9_isThere_25 : decode cX9_isThere 25 = .ok (.goto 4, 3) := by decide +kernel
theorem dX9_isThere_28 : decode cX9_isThere 28 = .ok (.iconst 0, 1) := by decide +kernel
theorem dX9_isThere_29 : decode cX9_isThere 29 = .ok (.ireturn, 1) := by decide +kernel
theorem dX9_isBox_0 : decode cX9_isBox 0 = .ok (.iload_n 1, 1) := by decide +kernel
theorem dX9_isBox_1 : decode cX9_isBox 1 = .ok (.ifCond .lt 26, 3) := by decide +kernel
theorem dX9_isBox_4 : decode cX9_isBox 4 = .ok (.iload_n 1, 1) := by decide +kernel
theorem dX9_isBox_5 : decode cX9_isBox 5 = .ok (.aload_n 0, 1) := by decide +kernel
theorem dX9_isBox_6 : decode cX9_isBox 6 = .ok (.getfield 9, 3) := by decide +kernel
theorem dX9_isBox_9 : decode cX9_isBox 9 = .ok (.iconst 1, 1) := by decide +kernel
theorem dX9_isBox_10 : decode cX9_isBox 10 = .ok (.iaload, 1) := by decide +kernel
theorem dX9_isBox_11 : decode cX9_isBox 11 = .ok (.if_icmp .ge 16, 3) := by decide +kernel
theorem dX9_isBox_14 : decode cX9_isBox 14 = .ok (.aload_n 0, 1) := by decide +kernel
theorem dX9_isBox_15 : decode cX9_isBox 15 = .ok (.getfield 26, 3) := by decide +kernel
theorem dX9_isBox_18 : decode cX9_isBox 18 = .ok (.iload_n 1, 1) := by decide +kernel
theorem dX9_isBox_19 : decode cX9_isBox 19 = .ok (.iaload, 1) := by decide +kernel
theorem dX9_isBox_20 : decode cX9_isBox 20 = .ok (.ifCond .ne 7, 3) := by decide +kernel
theorem dX9_isBox_23 : decode cX9_isBox 23 = .ok (.iconst 1, 1) := by decide +kernel
theorem dX9_isBox_24 : decode cX9_isBox 24 = .ok (.goto 4, 3) := by decide +kernel
theorem dX9_isBox_27 : decode cX9_isBox 27 = .ok (.iconst 0, 1) := by decide +kernel
theorem dX9_isBox_28 : decode cX9_isBox 28 = .ok (.ireturn, 1) := by decide +kernel
theorem dX9_isAt_0 : decode cX9_isAt 0 = .ok (.iload_n 1, 1) := by decide +kernel
theorem dX9_isAt_1 : decode cX9_isAt 1 = .ok (.ifCond .lt 37, 3) := by decide +kernel
theorem dX9_isAt_4 : decode cX9_isAt 4 = .ok (.iload_n 1, 1) := by decide +kernel
theorem dX9_isAt_5 : decode cX9_isAt 5 = .ok (.aload_n 0, 1) := by decide +kernel
theorem dX9_isAt_6 : decode cX9_isAt 6 = .ok (.getfield 9, 3) := by decide +kernel
theorem dX9_isAt_9 : decode cX9_isAt 9 = .ok (.iconst 1, 1) := by decide +kernel
theorem dX9_isAt_10 : decode cX9_isAt 10 = .ok (.iaload, 1) := by decide +kernel
theorem dX9_isAt_11 : decode cX9_isAt 11 = .ok (.if_icmp .ge 27, 3) := by decide +kernel
theorem dX9_isAt_14 : decode cX9_isAt 14 = .ok (.aload_n 0, 1) := by decide +kernel
theorem dX9_isAt_15 : decode cX9_isAt 15 = .ok (.getfield 20, 3) := by decide +kernel
theorem dX9_isAt_18 : decode cX9_isAt 18 = .ok (.iload_n 1, 1) := by decide +kernel
theorem dX9_isAt_19 : decode cX9_isAt 19 = .ok (.iaload, 1) := by decide +kernel
theorem dX9_isAt_20 : decode cX9_isAt 20 = .ok (.iload_n 2, 1) := by decide +kernel
theorem dX9_isAt_21 : decode cX9_isAt 21 = .ok (.if_icmp .eq 13, 3) := by decide +kernel
theorem dX9_isAt_24 : decode cX9_isAt 24 = .ok (.aload_n 0, 1) := by decide +kernel
theorem dX9_isAt_25 : decode cX9_isAt 25 = .ok (.getfield 23, 3) := by decide +kernel
theorem dX9_isAt_28 : decode cX9_isAt 28 = .ok (.iload_n 1, 1) := by decide +kernel
theorem dX9_isAt_29 : decode cX9_isAt 29 = .ok (.iaload, 1) := by decide +kernel
theorem dX9_isAt_30 : decode cX9_isAt 30 = .ok (.iload_n 2, 1) := by decide +kernel
theorem dX9_isAt_31 : decode cX9_isAt 31 = .ok (.if_icmp .ne 7, 3) := by decide +kernel
theorem dX9_isAt_34 : decode cX9_isAt 34 = .ok (.iconst 1, 1) := by decide +kernel
theorem dX9_isAt_35 : decode cX9_isAt 35 = .ok (.goto 4, 3) := by decide +kernel
theorem dX9_isAt_38 : decode cX9_isAt 38 = .ok (.iconst 0, 1) := by decide +kernel
theorem dX9_isAt_39 : decode cX9_isAt 39 = .ok (.ireturn, 1) := by decide +kernel
theorem dX9_keysOf_0 : decode cX9_keysOf 0 = .ok (.iconst 0, 1) := by decide +kernel
theorem dX9_keysOf_1 : decode cX9_keysOf 1 = .ok (.istore_n 2, 1) := by decide +kernel
theorem dX9_keysOf_2 : decode cX9_keysOf 2 = .ok (.iconst 0, 1) := by decide +kernel
theorem dX9_keysOf_3 : decode cX9_keysOf 3 = .ok (.istore_n 3, 1) := by decide +kernel
theorem dX9_keysOf_4 : decode cX9_keysOf 4 = .ok (.iload_n 3, 1) := by decide +kernel
theorem dX9_keysOf_5 : decode cX9_keysOf 5 = .ok (.aload_n 0, 1) := by decide +kernel
theorem dX9_keysOf_6 : decode cX9_keysOf 6 = .ok (.getfield 9, 3) := by decide +kernel
theorem dX9_keysOf_9 : decode cX9_keysOf 9 = .ok (.iconst 2, 1) := by decide +kernel
theorem dX9_keysOf_10 : decode cX9_keysOf 10 = .ok (.iaload, 1) := by decide +kernel
theorem dX9_keysOf_11 : decode cX9_keysOf 11 = .ok (.if_icmp .ge 28, 3) := by decide +kernel
theorem dX9_keysOf_14 : decode cX9_keysOf 14 = .ok (.aload_n 0, 1) := by decide +kernel
theorem dX9_keysOf_15 : decode cX9_keysOf 15 = .ok (.getfield 63, 3) := by decide +kernel
theorem dX9_keysOf_18 : decode cX9_keysOf 18 = .ok (.getfield 84, 3) := by decide +kernel
theorem dX9_keysOf_21 : decode cX9_keysOf 21 = .ok (.iload_n 3, 1) := by decide +kernel
theorem dX9_keysOf_22 : decode cX9_keysOf 22 = .ok (.iaload, 1) := by decide +kernel
theorem dX9_keysOf_23 : decode cX9_keysOf 23 = .ok (.iload_n 1, 1) := by decide +kernel
theorem dX9_keysOf_24 : decode cX9_keysOf 24 = .ok (.if_icmp .ne 9, 3) := by decide +kernel
theorem dX9_keysOf_27 : decode cX9_keysOf 27 = .ok (.iload_n 2, 1) := by decide +kernel
theorem dX9_keysOf_28 : decode cX9_keysOf 28 = .ok (.iconst 1, 1) := by decide +kernel
theorem dX9_keysOf_29 : decode cX9_keysOf 29 = .ok (.iload_n 3, 1) := by decide +kernel
theorem dX9_keysOf_30 : decode cX9_keysOf 30 = .ok (.ishl, 1) := by decide +kernel
theorem dX9_keysOf_31 : decode cX9_keysOf 31 = .ok (.ior, 1) := by decide +kernel
theorem dX9_keysOf_32 : decode cX9_keysOf 32 = .ok (.istore_n 2, 1) := by decide +kernel
theorem dX9_keysOf_33 : decode cX9_keysOf 33 = .ok (.iinc 3 1, 3) := by decide +kernel
theorem dX9_keysOf_36 : decode cX9_keysOf 36 = .ok (.goto (-32), 3) := by decide +kernel
theorem dX9_keysOf_39 : decode cX9_keysOf 39 = .ok (.iload_n 2, 1) := by decide +kernel
theorem dX9_keysOf_40 : decode cX9_keysOf 40 = .ok (.ireturn, 1) := by decide +kernel
