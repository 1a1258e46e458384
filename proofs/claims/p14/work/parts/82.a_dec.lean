theorem dX12_town_0 : decode cX12_town 0 = .ok (.aload_n 0, 1) := by decide +kernel
theorem dX12_town_1 : decode cX12_town 1 = .ok (.aload_n 0, 1) := by decide +kernel
theorem dX12_town_2 : decode cX12_town 2 = .ok (.getfield 13, 3) := by decide +kernel
theorem dX12_town_5 : decode cX12_town 5 = .ok (.putfield 17, 3) := by decide +kernel
theorem dX12_town_8 : decode cX12_town 8 = .ok (.aload_n 0, 1) := by decide +kernel
theorem dX12_town_9 : decode cX12_town 9 = .ok (.iconst 0, 1) := by decide +kernel
theorem dX12_town_10 : decode cX12_town 10 = .ok (.putfield 13, 3) := by decide +kernel
theorem dX12_town_13 : decode cX12_town 13 = .ok (.aload_n 0, 1) := by decide +kernel
theorem dX12_town_14 : decode cX12_town 14 = .ok (.iconst 0, 1) := by decide +kernel
theorem dX12_town_15 : decode cX12_town 15 = .ok (.putfield 26, 3) := by decide +kernel
theorem dX12_town_18 : decode cX12_town 18 = .ok (.aload_n 0, 1) := by decide +kernel
theorem dX12_town_19 : decode cX12_town 19 = .ok (.iconst 0, 1) := by decide +kernel
theorem dX12_town_20 : decode cX12_town 20 = .ok (.putfield 36, 3) := by decide +kernel
theorem dX12_town_23 : decode cX12_town 23 = .ok (.aload_n 0, 1) := by decide +kernel
theorem dX12_town_24 : decode cX12_town 24 = .ok (.iconst (-1), 1) := by decide +kernel
theorem dX12_town_25 : decode cX12_town 25 = .ok (.putfield 39, 3) := by decide +kernel
theorem dX12_town_28 : decode cX12_town 28 = .ok (.aload_n 0, 1) := by decide +kernel
theorem dX12_town_29 : decode cX12_town 29 = .ok (.iconst 1, 1) := by decide +kernel
theorem dX12_town_30 : decode cX12_town 30 = .ok (.aload_n 0, 1) := by decide +kernel
theorem dX12_town_31 : decode cX12_town 31 = .ok (.getfield 48, 3) := by decide +kernel
theorem dX12_town_34 : decode cX12_town 34 = .ok (.isub, 1) := by decide +kernel
theorem dX12_town_35 : decode cX12_town 35 = .ok (.putfield 155, 3) := by decide +kernel
theorem dX12_town_38 : decode cX12_town 38 = .ok (.aload_n 0, 1) := by decide +kernel
theorem dX12_town_39 : decode cX12_town 39 = .ok (.getfield 51, 3) := by decide +kernel
theorem dX12_town_42 : decode cX12_town 42 = .ok (.aload_n 0, 1) := by decide +kernel
theorem dX12_town_43 : decode cX12_town 43 = .ok (.getfield 155, 3) := by decide +kernel
theorem dX12_town_46 : decode cX12_town 46 = .ok (.iconst 0, 1) := by decide +kernel
theorem dX12_town_47 : decode cX12_town 47 = .ok (.iastore, 1) := by decide +kernel
theorem dX12_town_48 : decode cX12_town 48 = .ok (.aload_n 0, 1) := by decide +kernel
theorem dX12_town_49 : decode cX12_town 49 = .ok (.getfield 58, 3) := by decide +kernel
theorem dX12_town_52 : decode cX12_town 52 = .ok (.aload_n 0, 1) := by decide +kernel
theorem dX12_town_53 : decode cX12_town 53 = .ok (.getfield 155, 3) := by decide +kernel
theorem dX12_town_56 : decode cX12_town 56 = .ok (.iconst 0, 1) := by decide +kernel
theorem dX12_town_57 : decode cX12_town 57 = .ok (.iastore, 1) := by decide +kernel
theorem dX12_town_58 : decode cX12_town 58 = .ok (.aload_n 0, 1) := by decide +kernel
theorem dX12_town_59 : decode cX12_town 59 = .ok (.getfield 80, 3) := by decide +kernel
theorem dX12_town_62 : decode cX12_town 62 = .ok (.aload_n 0, 1) := by decide +kernel
theorem dX12_town_63 : decode cX12_town 63 = .ok (.getfield 155, 3) := by decide +kernel
theorem dX12_town_66 : decode cX12_town 66 = .ok (.iconst 0, 1) := by decide +kernel
theorem dX12_town_67 : decode cX12_town 67 = .ok (.iastore, 1) := by decide +kernel
theorem dX12_town_68 : decode cX12_town 68 = .ok (.aload_n 0, 1) := by decide +kernel
theorem dX12_town_69 : decode cX12_town 69 = .ok (.getfield 95, 3) := by decide +kernel
theorem dX12_town_72 : decode cX12_town 72 = .ok (.aload_n 0, 1) := by decide +kernel
theorem dX12_town_73 : decode cX12_town 73 = .ok (.getfield 155, 3) := by decide +kernel
theorem dX12_town_76 : decode cX12_town 76 = .ok (.iconst 0, 1) := by decide +kernel
theorem dX12_town_77 : decode cX12_town 77 = .ok (.iastore, 1) := by decide +kernel
theorem dX12_town_78 : decode cX12_town 78 = .ok (.aload_n 0, 1) := by decide +kernel
theorem dX12_town_79 : decode cX12_town 79 = .ok (.getfield 104, 3) := by decide +kernel
theorem dX12_town_82 : decode cX12_town 82 = .ok (.aload_n 0, 1) := by decide +kernel
theorem dX12_town_83 : decode cX12_town 83 = .ok (.getfield 155, 3) := by decide +kernel
theorem dX12_town_86 : decode cX12_town 86 = .ok (.iconst 0, 1) := by decide +kernel
theorem dX12_town_87 : decode cX12_town 87 = .ok (.iastore, 1) := by decide +kernel
theorem dX12_town_88 : decode cX12_town 88 = .ok (.aload_n 0, 1) := by decide +kernel
theorem dX12_town_89 : decode cX12_town 89 = .ok (.getfield 113, 3) := by decide +kernel
theorem dX12_town_92 : decode cX12_town 92 = .ok (.aload_n 0, 1) := by decide +kernel
theorem dX12_town_93 : decode cX12_town 93 = .ok (.getfield 155, 3) := by decide +kernel
theorem dX12_town_96 : decode cX12_town 96 = .ok (.iconst 0, 1) := by decide +kernel
theorem dX12_town_97 : decode cX12_town 97 = .ok (.iastore, 1) := by decide +kernel
theorem dX12_town_98 : decode cX12_town 98 = .ok (.aload_n 0, 1) := by decide +kernel
theorem dX12_town_99 : decode cX12_town 99 = .ok (.getfield 122, 3) := by decide +kernel
theorem dX12_town_102 : decode cX12_town 102 = .ok (.aload_n 0, 1) := by decide +kernel
theorem dX12_town_103 : decode cX12_town 103 = .ok (.getfield 155, 3) := by decide +kernel
theorem dX12_town_106 : decode cX12_town 106 = .ok (.iconst 0, 1) := by decide +kernel
theorem dX12_town_107 : decode cX12_town 107 = .ok (.iastore, 1) := by decide +kernel
theorem dX12_town_108 : decode cX12_town 108 = .ok (.aload_n 0, 1) := by decide +kernel
theorem dX12_town_109 : decode cX12_town 109 = .ok (.getfield 134, 3) := by decide +kernel
theorem dX12_town_112 : decode cX12_town 112 = .ok (.aload_n 0, 1) := by decide +kernel
theorem dX12_town_113 : decode cX12_town 113 = .ok (.getfield 155, 3) := by decide +kernel
theorem dX12_town_116 : decode cX12_town 116 = .ok (.iconst 0, 1) := by decide +kernel
theorem dX12_town_117 : decode cX12_town 117 = .ok (.iastore, 1) := by decide +kernel
theorem dX12_town_118 : decode cX12_town 118 = .ok (.aload_n 0, 1) := by decide +kernel
theorem dX12_town_119 : decode cX12_town 119 = .ok (.iconst 0, 1) := by decide +kernel
theorem dX12_town_120 : decode cX12_town 120 = .ok (.putfield 152, 3) := by decide +kernel
theorem dX12_town_123 : decode cX12_town 123 = .ok (.iconst 0, 1) := by decide +kernel
theorem dX12_town_124 : decode cX12_town 124 = .ok (.istore_n 1, 1) := by decide +kernel
theorem dX12_town_125 : decode cX12_town 125 = .ok (.aload_n 0, 1) := by decide +kernel
theorem dX12_town_126 : decode cX12_town 126 = .ok (.invokevirtual 293, 3) := by decide +kernel
theorem dX12_town_129 : decode cX12_town 129 = .ok (.aload_n 0, 1) := by decide +kernel
theorem dX12_town_130 : decode cX12_town 130 = .ok (.getfield 36, 3) := by decide +kernel
theorem dX12_town_133 : decode cX12_town 133 = .ok (.ifCond .ne 20, 3) := by decide +kernel
theorem dX12_town_136 : decode cX12_town 136 = .ok (.aload_n 0, 1) := by decide +kernel
theorem dX12_town_137 : decode cX12_town 137 = .ok (.getfield 20, 3) := by decide +kernel
theorem dX12_town_140 : decode cX12_town 140 = .ok (.ifCond .eq 13, 3) := by decide +kernel
theorem dX12_town_143 : decode cX12_town 143 = .ok (.aload_n 0, 1) := by decide +kernel
theorem dX12_town_144 : decode cX12_town 144 = .ok (.invokevirtual 465, 3) := by decide +kernel
theorem dX12_town_147 : decode cX12_town 147 = .ok (.iinc 1 1, 3) := by decide +kernel
theorem dX12_town_150 : decode cX12_town 150 = .ok (.goto (-21), 3) := by decide +kernel
theorem dX12_town_153 : decode cX12_town 153 = .ok (.aload_n 0, 1) := by decide +kernel
theorem dX12_town_154 : decode cX12_town 154 = .ok (.aload_n 0, 1) := by decide +kernel
theorem dX12_town_155 : decode cX12_town 155 = .ok (.getfield 36, 3) := by decide +kernel
theorem dX12_town_158 : decode cX12_town 158 = .ok (.putfield 42, 3) := by decide +kernel
theorem dX12_town_161 : decode cX12_town 161 = .ok (.aload_n 0, 1) := by decide +kernel
theorem dX12_town_162 : decode cX12_town 162 = .ok (.aload_n 0, 1) := by decide +kernel
theorem dX12_town_163 : decode cX12_town 163 = .ok (.getfield 39, 3) := by decide +kernel
theorem dX12_town_166 : decode cX12_town 166 = .ok (.putfield 45, 3) := by decide +kernel
theorem dX12_town_169 : decode cX12_town 169 = .ok (.aload_n 0, 1) := by decide +kernel
theorem dX12_town_170 : decode cX12_town 170 = .ok (.getfield 36, 3) := by decide +kernel
theorem dX12_town_173 : decode cX12_town 173 = .ok (.ifCond .le 9, 3) := by decide +kernel
theorem dX12_town_176 : decode cX12_town 176 = .ok (.aload_n 0, 1) := by decide +kernel
theorem dX12_town_177 : decode cX12_town 177 = .ok (.iconst 1, 1) := by decide +kernel
theorem dX12_town_178 : decode cX12_town 178 = .ok (.invokevirtual 271, 3) := by decide +kernel
theorem dX12_town_181 : decode cX12_town 181 = .ok (.ireturn, 1) := by decide +kernel
theorem dX12_town_182 : decode cX12_town 182 = .ok (.aload_n 0, 1) := by decide +kernel
theorem dX12_town_183 : decode cX12_town 183 = .ok (.aload_n 0, 1) := by decide +kernel
theorem dX12_town_184 : decode cX12_town 184 = .ok (.getfield 155, 3) := by decide +kernel
theorem dX12_town_187 : decode cX12_town 187 = .ok (.putfield 48, 3) := by decide +kernel
theorem dX12_town_190 : decode cX12_town 190 = .ok (.aload_n 0, 1) := by decide +kernel
theorem dX12_town_191 : decode cX12_town 191 = .ok (.iconst 0, 1) := by decide +kernel
theorem dX12_town_192 : decode cX12_town 192 = .ok (.putfield 241, 3) := by decide +kernel
theorem dX12_town_195 : decode cX12_town 195 = .ok (.iload_n 1, 1) := by decide +kernel
theorem dX12_town_196 : decode cX12_town 196 = .ok (.ireturn, 1) := by decide +kernel
