theorem dX3_begin_0 : decode cX3_begin 0 = .ok (.aload_n 0, 1) := by decide +kernel
theorem dX3_begin_1 : decode cX3_begin 1 = .ok (.iconst 0, 1) := by decide +kernel
theorem dX3_begin_2 : decode cX3_begin 2 = .ok (.putfield 9, 3) := by decide +kernel
theorem dX3_begin_5 : decode cX3_begin 5 = .ok (.aload_n 0, 1) := by decide +kernel
theorem dX3_begin_6 : decode cX3_begin 6 = .ok (.iconst (-1), 1) := by decide +kernel
theorem dX3_begin_7 : decode cX3_begin 7 = .ok (.putfield 24, 3) := by decide +kernel
theorem dX3_begin_10 : decode cX3_begin 10 = .ok (.aload_n 0, 1) := by decide +kernel
theorem dX3_begin_11 : decode cX3_begin 11 = .ok (.iconst 0, 1) := by decide +kernel
theorem dX3_begin_12 : decode cX3_begin 12 = .ok (.putfield 27, 3) := by decide +kernel
theorem dX3_begin_15 : decode cX3_begin 15 = .ok (.return_, 1) := by decide +kernel
theorem dX3_pass_0 : decode cX3_pass 0 = .ok (.aload_n 0, 1) := by decide +kernel
theorem dX3_pass_1 : decode cX3_pass 1 = .ok (.iconst 0, 1) := by decide +kernel
theorem dX3_pass_2 : decode cX3_pass 2 = .ok (.putfield 27, 3) := by decide +kernel
theorem dX3_pass_5 : decode cX3_pass 5 = .ok (.return_, 1) := by decide +kernel
theorem dX3_isSign_0 : decode cX3_isSign 0 = .ok (.aload_n 0, 1) := by decide +kernel
theorem dX3_isSign_1 : decode cX3_isSign 1 = .ok (.getfield 15, 3) := by decide +kernel
theorem dX3_isSign_4 : decode cX3_isSign 4 = .ok (.iconst 3, 1) := by decide +kernel
theorem dX3_isSign_5 : decode cX3_isSign 5 = .ok (.if_icmp .ne 15, 3) := by decide +kernel
theorem dX3_isSign_8 : decode cX3_isSign 8 = .ok (.aload_n 0, 1) := by decide +kernel
theorem dX3_isSign_9 : decode cX3_isSign 9 = .ok (.getfield 21, 3) := by decide +kernel
theorem dX3_isSign_12 : decode cX3_isSign 12 = .ok (.iload_n 1, 1) := by decide +kernel
theorem dX3_isSign_13 : decode cX3_isSign 13 = .ok (.if_icmp .ne 7, 3) := by decide +kernel
theorem dX3_isSign_16 : decode cX3_isSign 16 = .ok (.iconst 1, 1) := by decide +kernel
theorem dX3_isSign_17 : decode cX3_isSign 17 = .ok (.goto 4, 3) := by decide +kernel
theorem dX3_isSign_20 : decode cX3_isSign 20 = .ok (.iconst 0, 1) := by decide +kernel
theorem dX3_isSign_21 : decode cX3_isSign 21 = .ok (.ireturn, 1) := by decide +kernel
theorem dX3_look_0 : decode cX3_look 0 = .ok (.aload_n 0, 1) := by decide +kernel
theorem dX3_look_1 : decode cX3_look 1 = .ok (.getfield 27, 3) := by decide +kernel
theorem dX3_look_4 : decode cX3_look 4 = .ok (.ifCond .eq 4, 3) := by decide +kernel
theorem dX3_look_7 : decode cX3_look 7 = .ok (.return_, 1) := by decide +kernel
theorem dX3_look_8 : decode cX3_look 8 = .ok (.aload_n 0, 1) := by decide +kernel
theorem dX3_look_9 : decode cX3_look 9 = .ok (.iconst 1, 1) := by decide +kernel
theorem dX3_look_10 : decode cX3_look 10 = .ok (.putfield 27, 3) := by decide +kernel
theorem dX3_look_13 : decode cX3_look 13 = .ok (.aload_n 0, 1) := by decide +kernel
theorem dX3_look_14 : decode cX3_look 14 = .ok (.getfield 9, 3) := by decide +kernel
theorem dX3_look_17 : decode cX3_look 17 = .ok (.aload_n 0, 1) := by decide +kernel
theorem dX3_look_18 : decode cX3_look 18 = .ok (.getfield 31, 3) := by decide +kernel
theorem dX3_look_21 : decode cX3_look 21 = .ok (.getfield 35, 3) := by decide +kernel
theorem dX3_look_24 : decode cX3_look 24 = .ok (.if_icmp .ge 60, 3) := by decide +kernel
theorem dX3_look_27 : decode cX3_look 27 = .ok (.aload_n 0, 1) := by decide +kernel
theorem dX3_look_28 : decode cX3_look 28 = .ok (.getfield 9, 3) := by decide +kernel
theorem dX3_look_31 : decode cX3_look 31 = .ok (.sipush 1600, 3) := by decide +kernel
theorem dX3_look_34 : decode cX3_look 34 = .ok (.if_icmp .ge 50, 3) := by decide +kernel
theorem dX3_look_37 : decode cX3_look 37 = .ok (.aload_n 0, 1) := by decide +kernel
theorem dX3_look_38 : decode cX3_look 38 = .ok (.getfield 31, 3) := by decide +kernel
theorem dX3_look_41 : decode cX3_look 41 = .ok (.getfield 40, 3) := by decide +kernel
theorem dX3_look_44 : decode cX3_look 44 = .ok (.aload_n 0, 1) := by decide +kernel
theorem dX3_look_45 : decode cX3_look 45 = .ok (.getfield 9, 3) := by decide +kernel
theorem dX3_look_48 : decode cX3_look 48 = .ok (.baload, 1) := by decide +kernel
theorem dX3_look_49 : decode cX3_look 49 = .ok (.bipush 10, 2) := by decide +kernel
theorem dX3_look_51 : decode cX3_look 51 = .ok (.if_icmp .eq 20, 3) := by decide +kernel
theorem dX3_look_54 : decode cX3_look 54 = .ok (.aload_n 0, 1) := by decide +kernel
theorem dX3_look_55 : decode cX3_look 55 = .ok (.getfield 31, 3) := by decide +kernel
theorem dX3_look_58 : decode cX3_look 58 = .ok (.getfield 40, 3) := by decide +kernel
theorem dX3_look_61 : decode cX3_look 61 = .ok (.aload_n 0, 1) := by decide +kernel
theorem dX3_look_62 : decode cX3_look 62 = .ok (.getfield 9, 3) := by decide +kernel
theorem dX3_look_65 : decode cX3_look 65 = .ok (.baload, 1) := by decide +kernel
theorem dX3_look_66 : decode cX3_look 66 = .ok (.bipush 32, 2) := by decide +kernel
theorem dX3_look_68 : decode cX3_look 68 = .ok (.if_icmp .ne 16, 3) := by decide +kernel
theorem dX3_look_71 : decode cX3_look 71 = .ok (.aload_n 0, 1) := by decide +kernel
theorem dX3_look_72 : decode cX3_look 72 = .ok (.dup, 1) := by decide +kernel
theorem dX3_look_73 : decode cX3_look 73 = .ok (.getfield 9, 3) := by decide +kernel
theorem dX3_look_76 : decode cX3_look 76 = .ok (.iconst 1, 1) := by decide +kernel
theorem dX3_look_77 : decode cX3_look 77 = .ok (.iadd, 1) := by decide +kernel
theorem dX3_look_78 : decode cX3_look 78 = .ok (.putfield 9, 3) := by decide +kernel
theorem dX3_look_81 : decode cX3_look 81 = .ok (.goto (-68), 3) := by decide +kernel
theorem dX3_look_84 : decode cX3_look 84 = .ok (.aload_n 0, 1) := by decide +kernel
theorem dX3_look_85 : decode cX3_look 85 = .ok (.aload_n 0, 1) := by decide +kernel
theorem dX3_look_86 : decode cX3_look 86 = .ok (.getfield 9, 3) := by decide +kernel
theorem dX3_look_89 : decode cX3_look 89 = .ok (.putfield 18, 3) := by decide +kernel
theorem dX3_look_92 : decode cX3_look 92 = .ok (.aload_n 0, 1) := by decide +kernel
theorem dX3_look_93 : decode cX3_look 93 = .ok (.getfield 9, 3) := by decide +kernel
theorem dX3_look_96 : decode cX3_look 96 = .ok (.aload_n 0, 1) := by decide +kernel
theorem dX3_look_97 : decode cX3_look 97 = .ok (.getfield 31, 3) := by decide +kernel
theorem dX3_look_100 : decode cX3_look 100 = .ok (.getfield 35, 3) := by decide +kernel
theorem dX3_look_103 : decode cX3_look 103 = .ok (.if_icmp .ge 13, 3) := by decide +kernel
theorem dX3_look_106 : decode cX3_look 106 = .ok (.aload_n 0, 1) := by decide +kernel
theorem dX3_look_107 : decode cX3_look 107 = .ok (.getfield 9, 3) := by decide +kernel
theorem dX3_look_110 : decode cX3_look 110 = .ok (.sipush 1600, 3) := by decide +kernel
theorem dX3_look_113 : decode cX3_look 113 = .ok (.if_icmp .lt 9, 3) := by decide +kernel
theorem dX3_look_116 : decode cX3_look 116 = .ok (.aload_n 0, 1) := by decide +kernel
theorem dX3_look_117 : decode cX3_look 117 = .ok (.iconst 0, 1) := by decide +kernel
theorem dX3_look_118 : decode cX3_look 118 = .ok (.putfield 15, 3) := by decide +kernel
theorem dX3_look_121 : decode cX3_look 121 = .ok (.return_, 1) := by decide +kernel
theorem dX3_look_122 : decode cX3_look 122 = .ok (.aload_n 0, 1) := by decide +kernel
theorem dX3_look_123 : decode cX3_look 123 = .ok (.aload_n 0, 1) := by decide +kernel
theorem dX3_look_124 : decode cX3_look 124 = .ok (.getfield 31, 3) := by decide +kernel
theorem dX3_look_127 : decode cX3_look 127 = .ok (.getfield 40, 3) := by decide +kernel
theorem dX3_look_130 : decode cX3_look 130 = .ok (.aload_n 0, 1) := by decide +kernel
theorem dX3_look_131 : decode cX3_look 131 = .ok (.getfield 9, 3) := by decide +kernel
theorem dX3_look_134 : decode cX3_look 134 = .ok (.baload, 1) := by decide +kernel
theorem dX3_look_135 : decode cX3_look 135 = .ok (.putfield 21, 3) := by decide +kernel
theorem dX3_look_138 : decode cX3_look 138 = .ok (.aload_n 0, 1) := by decide +kernel
theorem dX3_look_139 : decode cX3_look 139 = .ok (.getfield 21, 3) := by decide +kernel
theorem dX3_look_142 : decode cX3_look 142 = .ok (.bipush 97, 2) := by decide +kernel
theorem dX3_look_144 : decode cX3_look 144 = .ok (.if_icmp .lt 26, 3) := by decide +kernel
theorem dX3_look_147 : decode cX3_look 147 = .ok (.aload_n 0, 1) := by decide +kernel
theorem dX3_look_148 : decode cX3_look 148 = .ok (.getfield 21, 3) := by decide +kernel
theorem dX3_look_151 : decode cX3_look 151 = .ok (.bipush 122, 2) := by decide +kernel
theorem dX3_look_153 : decode cX3_look 153 = .ok (.if_icmp .gt 17, 3) := by decide +kernel
theorem dX3_look_156 : decode cX3_look 156 = .ok (.aload_n 0, 1) := by decide +kernel
theorem dX3_look_157 : decode cX3_look 157 = .ok (.iconst 1, 1) := by decide +kernel
theorem dX3_look_158 : decode cX3_look 158 = .ok (.bipush 97, 2) := by decide +kernel
theorem dX3_look_160 : decode cX3_look 160 = .ok (.bipush 122, 2) := by decide +kernel
theorem dX3_look_162 : decode cX3_look 162 = .ok (.bipush 6, 2) := by decide +kernel
theorem dX3_look_164 : decode cX3_look 164 = .ok (.invokevirtual 44, 3) := by decide +kernel
theorem dX3_look_167 : decode cX3_look 167 = .ok (.goto 49, 3) := by decide +kernel
theorem dX3_look_170 : decode cX3_look 170 = .ok (.aload_n 0, 1) := by decide +kernel
theorem dX3_look_171 : decode cX3_look 171 = .ok (.getfield 21, 3) := by decide +kernel
theorem dX3_look_174 : decode cX3_look 174 = .ok (.bipush 48, 2) := by decide +kernel
theorem dX3_look_176 : decode cX3_look 176 = .ok (.if_icmp .lt 25, 3) := by decide +kernel
theorem dX3_look_179 : decode cX3_look 179 = .ok (.aload_n 0, 1) := by decide +kernel
theorem dX3_look_180 : decode cX3_look 180 = .ok (.getfield 21, 3) := by decide +kernel
theorem dX3_look_183 : decode cX3_look 183 = .ok (.bipush 57, 2) := by decide +kernel
theorem dX3_look_185 : decode cX3_look 185 = .ok (.if_icmp .gt 16, 3) := by decide +kernel
theorem dX3_look_188 : decode cX3_look 188 = .ok (.aload_n 0, 1) := by decide +kernel
theorem dX3_look_189 : decode cX3_look 189 = .ok (.iconst 2, 1) := by decide +kernel
theorem dX3_look_190 : decode cX3_look 190 = .ok (.bipush 48, 2) := by decide +kernel
theorem dX3_look_192 : decode cX3_look 192 = .ok (.bipush 57, 2) := by decide +kernel
theorem dX3_look_194 : decode cX3_look 194 = .ok (.iconst 4, 1) := by decide +kernel
theorem dX3_look_195 : decode cX3_look 195 = .ok (.invokevirtual 44, 3) := by decide +kernel
theorem dX3_look_198 : decode cX3_look 198 = .ok (.goto 18, 3) := by decide +kernel
theorem dX3_look_201 : decode cX3_look 201 = .ok (.aload_n 0, 1) := by decide +kernel
theorem dX3_look_202 : decode cX3_look 202 = .ok (.iconst 3, 1) := by decide +kernel
theorem dX3_look_203 : decode cX3_look 203 = .ok (.putfield 15, 3) := by decide +kernel
theorem dX3_look_206 : decode cX3_look 206 = .ok (.aload_n 0, 1) := by decide +kernel
theorem dX3_look_207 : decode cX3_look 207 = .ok (.dup, 1) := by decide +kernel
theorem dX3_look_208 : decode cX3_look 208 = .ok (.getfield 9, 3) := by decide +kernel
theorem dX3_look_211 : decode cX3_look 211 = .ok (.iconst 1, 1) := by decide +kernel
theorem dX3_look_212 : decode cX3_look 212 = .ok (.iadd, 1) := by decide +kernel
theorem dX3_look_213 : decode cX3_look 213 = .ok (.putfield 9, 3) := by decide +kernel
theorem dX3_look_216 : decode cX3_look 216 = .ok (.return_, 1) := by decide +kernel
theorem dX3_cut_0 : decode cX3_cut 0 = .ok (.aload_n 0, 1) := by decide +kernel
theorem dX3_cut_1 : decode cX3_cut 1 = .ok (.aload_n 0, 1) := by decide +kernel
theorem dX3_cut_2 : decode cX3_cut 2 = .ok (.getfield 18, 3) := by decide +kernel
theorem dX3_cut_5 : decode cX3_cut 5 = .ok (.aload_n 0, 1) := by decide +kernel
theorem dX3_cut_6 : decode cX3_cut 6 = .ok (.getfield 24, 3) := by decide +kernel
theorem dX3_cut_9 : decode cX3_cut 9 = .ok (.if_icmp .ne 7, 3) := by decide +kernel
theorem dX3_cut_12 : decode cX3_cut 12 = .ok (.iconst 4, 1) := by decide +kernel
theorem dX3_cut_13 : decode cX3_cut 13 = .ok (.goto 4, 3) := by decide +kernel
theorem dX3_cut_16 : decode cX3_cut 16 = .ok (.iload_n 1, 1) := by decide +kernel
theorem dX3_cut_17 : decode cX3_cut 17 = .ok (.putfield 15, 3) := by decide +kernel
theorem dX3_cut_20 : decode cX3_cut 20 = .ok (.aload_n 0, 1) := by decide +kernel
theorem dX3_cut_21 : decode cX3_cut 21 = .ok (.iconst 0, 1) := by decide +kernel
theorem dX3_cut_22 : decode cX3_cut 22 = .ok (.putfield 21, 3) := by decide +kernel
theorem dX3_cut_25 : decode cX3_cut 25 = .ok (.aload_n 0, 1) := by decide +kernel
theorem dX3_cut_26 : decode cX3_cut 26 = .ok (.getfield 9, 3) := by decide +kernel
theorem dX3_cut_29 : decode cX3_cut 29 = .ok (.aload_n 0, 1) := by decide +kernel
theorem dX3_cut_30 : decode cX3_cut 30 = .ok (.getfield 31, 3) := by decide +kernel
theorem dX3_cut_33 : decode cX3_cut 33 = .ok (.getfield 35, 3) := by decide +kernel
theorem dX3_cut_36 : decode cX3_cut 36 = .ok (.if_icmp .ge 145, 3) := by decide +kernel
theorem dX3_cut_39 : decode cX3_cut 39 = .ok (.aload_n 0, 1) := by decide +kernel
theorem dX3_cut_40 : decode cX3_cut 40 = .ok (.getfield 9, 3) := by decide +kernel
theorem dX3_cut_43 : decode cX3_cut 43 = .ok (.sipush 1600, 3) := by decide +kernel
theorem dX3_cut_46 : decode cX3_cut 46 = .ok (.if_icmp .ge 135, 3) := by decide +kernel
theorem dX3_cut_49 : decode cX3_cut 49 = .ok (.aload_n 0, 1) := by decide +kernel
theorem dX3_cut_50 : decode cX3_cut 50 = .ok (.getfield 31, 3) := by decide +kernel
theorem dX3_cut_53 : decode cX3_cut 53 = .ok (.getfield 40, 3) := by decide +kernel
theorem dX3_cut_56 : decode cX3_cut 56 = .ok (.aload_n 0, 1) := by decide +kernel
theorem dX3_cut_57 : decode cX3_cut 57 = .ok (.getfield 9, 3) := by decide +kernel
theorem dX3_cut_60 : decode cX3_cut 60 = .ok (.baload, 1) := by decide +kernel
theorem dX3_cut_61 : decode cX3_cut 61 = .ok (.iload_n 2, 1) := by decide +kernel
theorem dX3_cut_62 : decode cX3_cut 62 = .ok (.if_icmp .lt 119, 3) := by decide +kernel
theorem dX3_cut_65 : decode cX3_cut 65 = .ok (.aload_n 0, 1) := by decide +kernel
theorem dX3_cut_66 : decode cX3_cut 66 = .ok (.getfield 31, 3) := by decide +kernel
theorem dX3_cut_69 : decode cX3_cut 69 = .ok (.getfield 40, 3) := by decide +kernel
theorem dX3_cut_72 : decode cX3_cut 72 = .ok (.aload_n 0, 1) := by decide +kernel
theorem dX3_cut_73 : decode cX3_cut 73 = .ok (.getfield 9, 3) := by decide +kernel
theorem dX3_cut_76 : decode cX3_cut 76 = .ok (.baload, 1) := by decide +kernel
theorem dX3_cut_77 : decode cX3_cut 77 = .ok (.iload_n 3, 1) := by decide +kernel
theorem dX3_cut_78 : decode cX3_cut 78 = .ok (.if_icmp .gt 103, 3) := by decide +kernel
theorem dX3_cut_81 : decode cX3_cut 81 = .ok (.aload_n 0, 1) := by decide +kernel
theorem dX3_cut_82 : decode cX3_cut 82 = .ok (.getfield 9, 3) := by decide +kernel
theorem dX3_cut_85 : decode cX3_cut 85 = .ok (.aload_n 0, 1) := by decide +kernel
theorem dX3_cut_86 : decode cX3_cut 86 = .ok (.getfield 18, 3) := by decide +kernel
theorem dX3_cut_89 : decode cX3_cut 89 = .ok (.isub, 1) := by decide +kernel
theorem dX3_cut_90 : decode cX3_cut 90 = .ok (.iload 4, 2) := by decide +kernel
theorem dX3_cut_92 : decode cX3_cut 92 = .ok (.if_icmp .lt 17, 3) := by decide +kernel
theorem dX3_cut_95 : decode cX3_cut 95 = .ok (.aload_n 0, 1) := by decide +kernel
theorem dX3_cut_96 : decode cX3_cut 96 = .ok (.iconst 4, 1) := by decide +kernel
theorem dX3_cut_97 : decode cX3_cut 97 = .ok (.putfield 15, 3) := by decide +kernel
theorem dX3_cut_100 : decode cX3_cut 100 = .ok (.aload_n 0, 1) := by decide +kernel
theorem dX3_cut_101 : decode cX3_cut 101 = .ok (.aload_n 0, 1) := by decide +kernel
theorem dX3_cut_102 : decode cX3_cut 102 = .ok (.getfield 9, 3) := by decide +kernel
theorem dX3_cut_105 : decode cX3_cut 105 = .ok (.putfield 18, 3) := by decide +kernel
theorem dX3_cut_108 : decode cX3_cut 108 = .ok (.return_, 1) := by decide +kernel
theorem dX3_cut_109 : decode cX3_cut 109 = .ok (.aload_n 0, 1) := by decide +kernel
theorem dX3_cut_110 : decode cX3_cut 110 = .ok (.getfield 31, 3) := by decide +kernel
theorem dX3_cut_113 : decode cX3_cut 113 = .ok (.getfield 40, 3) := by decide +kernel
theorem dX3_cut_116 : decode cX3_cut 116 = .ok (.aload_n 0, 1) := by decide +kernel
theorem dX3_cut_117 : decode cX3_cut 117 = .ok (.getfield 9, 3) := by decide +kernel
theorem dX3_cut_120 : decode cX3_cut 120 = .ok (.baload, 1) := by decide +kernel
theorem dX3_cut_121 : decode cX3_cut 121 = .ok (.iload_n 2, 1) := by decide +kernel
theorem dX3_cut_122 : decode cX3_cut 122 = .ok (.isub, 1) := by decide +kernel
theorem dX3_cut_123 : decode cX3_cut 123 = .ok (.istore 5, 2) := by decide +kernel
theorem dX3_cut_125 : decode cX3_cut 125 = .ok (.aload_n 0, 1) := by decide +kernel
theorem dX3_cut_126 : decode cX3_cut 126 = .ok (.iload_n 1, 1) := by decide +kernel
theorem dX3_cut_127 : decode cX3_cut 127 = .ok (.iconst 2, 1) := by decide +kernel
theorem dX3_cut_128 : decode cX3_cut 128 = .ok (.if_icmp .ne 16, 3) := by decide +kernel
theorem dX3_cut_131 : decode cX3_cut 131 = .ok (.aload_n 0, 1) := by decide +kernel
theorem dX3_cut_132 : decode cX3_cut 132 = .ok (.getfield 21, 3) := by decide +kernel
theorem dX3_cut_135 : decode cX3_cut 135 = .ok (.bipush 10, 2) := by decide +kernel
theorem dX3_cut_137 : decode cX3_cut 137 = .ok (.imul, 1) := by decide +kernel
theorem dX3_cut_138 : decode cX3_cut 138 = .ok (.iload 5, 2) := by decide +kernel
theorem dX3_cut_140 : decode cX3_cut 140 = .ok (.iadd, 1) := by decide +kernel
theorem dX3_cut_141 : decode cX3_cut 141 = .ok (.goto 24, 3) := by decide +kernel
theorem dX3_cut_144 : decode cX3_cut 144 = .ok (.aload_n 0, 1) := by decide +kernel
theorem dX3_cut_145 : decode cX3_cut 145 = .ok (.getfield 21, 3) := by decide +kernel
theorem dX3_cut_148 : decode cX3_cut 148 = .ok (.iload 5, 2) := by decide +kernel
theorem dX3_cut_150 : decode cX3_cut 150 = .ok (.iconst 1, 1) := by decide +kernel
theorem dX3_cut_151 : decode cX3_cut 151 = .ok (.iadd, 1) := by decide +kernel
theorem dX3_cut_152 : decode cX3_cut 152 = .ok (.iconst 5, 1) := by decide +kernel
theorem dX3_cut_153 : decode cX3_cut 153 = .ok (.aload_n 0, 1) := by decide +kernel
theorem dX3_cut_154 : decode cX3_cut 154 = .ok (.getfield 9, 3) := by decide +kernel
theorem dX3_cut_157 : decode cX3_cut 157 = .ok (.aload_n 0, 1) := by decide +kernel
theorem dX3_cut_158 : decode cX3_cut 158 = .ok (.getfield 18, 3) := by decide +kernel
theorem dX3_cut_161 : decode cX3_cut 161 = .ok (.isub, 1) := by decide +kernel
theorem dX3_cut_162 : decode cX3_cut 162 = .ok (.imul, 1) := by decide +kernel
theorem dX3_cut_163 : decode cX3_cut 163 = .ok (.ishl, 1) := by decide +kernel
theorem dX3_cut_164 : decode cX3_cut 164 = .ok (.ior, 1) := by decide +kernel
theorem dX3_cut_165 : decode cX3_cut 165 = .ok (.putfield 21, 3) := by decide +kernel
theorem dX3_cut_168 : decode cX3_cut 168 = .ok (.aload_n 0, 1) := by decide +kernel
theorem dX3_cut_169 : decode cX3_cut 169 = .ok (.dup, 1) := by decide +kernel
theorem dX3_cut_170 : decode cX3_cut 170 = .ok (.getfield 9, 3) := by decide +kernel
theorem dX3_cut_173 : decode cX3_cut 173 = .ok (.iconst 1, 1) := by decide +kernel
theorem dX3_cut_174 : decode cX3_cut 174 = .ok (.iadd, 1) := by decide +kernel
theorem dX3_cut_175 : decode cX3_cut 175 = .ok (.putfield 9, 3) := by decide +kernel
theorem dX3_cut_178 : decode cX3_cut 178 = .ok (.goto (-153), 3) := by decide +kernel
theorem dX3_cut_181 : decode cX3_cut 181 = .ok (.aload_n 0, 1) := by decide +kernel
theorem dX3_cut_182 : decode cX3_cut 182 = .ok (.aload_n 0, 1) := by decide +kernel
theorem dX3_cut_183 : decode cX3_cut 183 = .ok (.getfield 9, 3) := by decide +kernel
theorem dX3_cut_186 : decode cX3_cut 186 = .ok (.putfield 24, 3) := by decide +kernel
theorem dX3_cut_189 : decode cX3_cut 189 = .ok (.return_, 1) := by decide +kernel
theorem dX4_write_0 : decode cX4_write 0 = .ok (.aload_n 0, 1) := by decide +kernel
theorem dX4_write_1 : decode cX4_write 1 = .ok (.iconst 0, 1) := by decide +kernel
theorem dX4_write_2 : decode cX4_write 2 = .ok (.putfield 22, 3) := by decide +kernel
theorem dX4_write_5 : decode cX4_write 5 = .ok (.iconst 0, 1) := by decide +kernel
theorem dX4_write_6 : decode cX4_write 6 = .ok (.istore_n 2, 1) := by decide +kernel
theorem dX4_write_7 : decode cX4_write 7 = .ok (.iload_n 2, 1) := by decide +kernel
theorem dX4_write_8 : decode cX4_write 8 = .ok (.aload_n 1, 1) := by decide +kernel
theorem dX4_write_9 : decode cX4_write 9 = .ok (.getfield 26, 3) := by decide +kernel
theorem dX4_write_12 : decode cX4_write 12 = .ok (.iconst 3, 1) := by decide +kernel
theorem dX4_write_13 : decode cX4_write 13 = .ok (.iaload, 1) := by decide +kernel
theorem dX4_write_14 : decode cX4_write 14 = .ok (.if_icmp .ge 22, 3) := by decide +kernel
theorem dX4_write_17 : decode cX4_write 17 = .ok (.aload_n 0, 1) := by decide +kernel
theorem dX4_write_18 : decode cX4_write 18 = .ok (.aload_n 1, 1) := by decide +kernel
theorem dX4_write_19 : decode cX4_write 19 = .ok (.getfield 31, 3) := by decide +kernel
theorem dX4_write_22 : decode cX4_write 22 = .ok (.getfield 34, 3) := by decide +kernel
theorem dX4_write_25 : decode cX4_write 25 = .ok (.iload_n 2, 1) := by decide +kernel
theorem dX4_write_26 : decode cX4_write 26 = .ok (.iaload, 1) := by decide +kernel
theorem dX4_write_27 : decode cX4_write 27 = .ok (.invokevirtual 37, 3) := by decide +kernel
theorem dX4_write_30 : decode cX4_write 30 = .ok (.iinc 2 1, 3) := by decide +kernel
theorem dX4_write_33 : decode cX4_write 33 = .ok (.goto (-26), 3) := by decide +kernel
theorem dX4_write_36 : decode cX4_write 36 = .ok (.iconst 0, 1) := by decide +kernel
theorem dX4_write_37 : decode cX4_write 37 = .ok (.istore_n 2, 1) := by decide +kernel
theorem dX4_write_38 : decode cX4_write 38 = .ok (.iload_n 2, 1) := by decide +kernel
theorem dX4_write_39 : decode cX4_write 39 = .ok (.aload_n 1, 1) := by decide +kernel
theorem dX4_write_40 : decode cX4_write 40 = .ok (.getfield 26, 3) := by decide +kernel
theorem dX4_write_43 : decode cX4_write 43 = .ok (.iconst 2, 1) := by decide +kernel
theorem dX4_write_44 : decode cX4_write 44 = .ok (.iaload, 1) := by decide +kernel
theorem dX4_write_45 : decode cX4_write 45 = .ok (.if_icmp .ge 69, 3) := by decide +kernel
theorem dX4_write_48 : decode cX4_write 48 = .ok (.aload_n 0, 1) := by decide +kernel
theorem dX4_write_49 : decode cX4_write 49 = .ok (.aload_n 1, 1) := by decide +kernel
theorem dX4_write_50 : decode cX4_write 50 = .ok (.getfield 31, 3) := by decide +kernel
theorem dX4_write_53 : decode cX4_write 53 = .ok (.getfield 41, 3) := by decide +kernel
theorem dX4_write_56 : decode cX4_write 56 = .ok (.iload_n 2, 1) := by decide +kernel
theorem dX4_write_57 : decode cX4_write 57 = .ok (.iaload, 1) := by decide +kernel
theorem dX4_write_58 : decode cX4_write 58 = .ok (.invokevirtual 37, 3) := by decide +kernel
theorem dX4_write_61 : decode cX4_write 61 = .ok (.aload_n 0, 1) := by decide +kernel
theorem dX4_write_62 : decode cX4_write 62 = .ok (.aload_n 1, 1) := by decide +kernel
theorem dX4_write_63 : decode cX4_write 63 = .ok (.getfield 31, 3) := by decide +kernel
theorem dX4_write_66 : decode cX4_write 66 = .ok (.getfield 44, 3) := by decide +kernel
theorem dX4_write_69 : decode cX4_write 69 = .ok (.iload_n 2, 1) := by decide +kernel
theorem dX4_write_70 : decode cX4_write 70 = .ok (.iaload, 1) := by decide +kernel
theorem dX4_write_71 : decode cX4_write 71 = .ok (.invokevirtual 37, 3) := by decide +kernel
theorem dX4_write_74 : decode cX4_write 74 = .ok (.iconst 0, 1) := by decide +kernel
theorem dX4_write_75 : decode cX4_write 75 = .ok (.istore_n 3, 1) := by decide +kernel
theorem dX4_write_76 : decode cX4_write 76 = .ok (.iload_n 3, 1) := by decide +kernel
theorem dX4_write_77 : decode cX4_write 77 = .ok (.aload_n 1, 1) := by decide +kernel
theorem dX4_write_78 : decode cX4_write 78 = .ok (.getfield 31, 3) := by decide +kernel
theorem dX4_write_81 : decode cX4_write 81 = .ok (.getfield 44, 3) := by decide +kernel
theorem dX4_write_84 : decode cX4_write 84 = .ok (.iload_n 2, 1) := by decide +kernel
theorem dX4_write_85 : decode cX4_write 85 = .ok (.iaload, 1) := by decide +kernel
theorem dX4_write_86 : decode cX4_write 86 = .ok (.if_icmp .ge 22, 3) := by decide +kernel
theorem dX4_write_89 : decode cX4_write 89 = .ok (.aload_n 0, 1) := by decide +kernel
theorem dX4_write_90 : decode cX4_write 90 = .ok (.aload_n 1, 1) := by decide +kernel
theorem dX4_write_91 : decode cX4_write 91 = .ok (.getfield 31, 3) := by decide +kernel
theorem dX4_write_94 : decode cX4_write 94 = .ok (.iload_n 2, 1) := by decide +kernel
theorem dX4_write_95 : decode cX4_write 95 = .ok (.iload_n 3, 1) := by decide +kernel
theorem dX4_write_96 : decode cX4_write 96 = .ok (.invokevirtual 47, 3) := by decide +kernel
theorem dX4_write_99 : decode cX4_write 99 = .ok (.invokevirtual 37, 3) := by decide +kernel
theorem dX4_write_102 : decode cX4_write 102 = .ok (.iinc 3 1, 3) := by decide +kernel
theorem dX4_write_105 : decode cX4_write 105 = .ok (.goto (-29), 3) := by decide +kernel
theorem dX4_write_108 : decode cX4_write 108 = .ok (.iinc 2 1, 3) := by decide +kernel
theorem dX4_write_111 : decode cX4_write 111 = .ok (.goto (-73), 3) := by decide +kernel
theorem dX4_write_114 : decode cX4_write 114 = .ok (.bipush 19, 2) := by decide +kernel
theorem dX4_write_116 : decode cX4_write 116 = .ok (.istore_n 2, 1) := by decide +kernel
theorem dX4_write_117 : decode cX4_write 117 = .ok (.iconst 0, 1) := by decide +kernel
theorem dX4_write_118 : decode cX4_write 118 = .ok (.istore_n 3, 1) := by decide +kernel
theorem dX4_write_119 : decode cX4_write 119 = .ok (.iload_n 3, 1) := by decide +kernel
theorem dX4_write_120 : decode cX4_write 120 = .ok (.aload_n 0, 1) := by decide +kernel
theorem dX4_write_121 : decode cX4_write 121 = .ok (.getfield 22, 3) := by decide +kernel
theorem dX4_write_124 : decode cX4_write 124 = .ok (.if_icmp .ge 26, 3) := by decide +kernel
theorem dX4_write_127 : decode cX4_write 127 = .ok (.iload_n 3, 1) := by decide +kernel
theorem dX4_write_128 : decode cX4_write 128 = .ok (.bipush 36, 2) := by decide +kernel
theorem dX4_write_130 : decode cX4_write 130 = .ok (.if_icmp .ge 20, 3) := by decide +kernel
theorem dX4_write_133 : decode cX4_write 133 = .ok (.iload_n 2, 1) := by decide +kernel
theorem dX4_write_134 : decode cX4_write 134 = .ok (.aload_n 0, 1) := by decide +kernel
theorem dX4_write_135 : decode cX4_write 135 = .ok (.getfield 11, 3) := by decide +kernel
theorem dX4_write_138 : decode cX4_write 138 = .ok (.iload_n 3, 1) := by decide +kernel
theorem dX4_write_139 : decode cX4_write 139 = .ok (.iaload, 1) := by decide +kernel
theorem dX4_write_140 : decode cX4_write 140 = .ok (.invokestatic 51, 3) := by decide +kernel
theorem dX4_write_143 : decode cX4_write 143 = .ok (.istore_n 2, 1) := by decide +kernel
theorem dX4_write_144 : decode cX4_write 144 = .ok (.iinc 3 1, 3) := by decide +kernel
theorem dX4_write_147 : decode cX4_write 147 = .ok (.goto (-28), 3) := by decide +kernel
theorem dX4_write_150 : decode cX4_write 150 = .ok (.aload_n 0, 1) := by decide +kernel
theorem dX4_write_151 : decode cX4_write 151 = .ok (.iload_n 2, 1) := by decide +kernel
theorem dX4_write_152 : decode cX4_write 152 = .ok (.invokevirtual 37, 3) := by decide +kernel
theorem dX4_write_155 : decode cX4_write 155 = .ok (.aload_n 0, 1) := by decide +kernel
theorem dX4_write_156 : decode cX4_write 156 = .ok (.getfield 22, 3) := by decide +kernel
theorem dX4_write_159 : decode cX4_write 159 = .ok (.ireturn, 1) := by decide +kernel
theorem dX4_put_0 : decode cX4_put 0 = .ok (.aload_n 0, 1) := by decide +kernel
theorem dX4_put_1 : decode cX4_put 1 = .ok (.getfield 22, 3) := by decide +kernel
theorem dX4_put_4 : decode cX4_put 4 = .ok (.ifCond .lt 32, 3) := by decide +kernel
theorem dX4_put_7 : decode cX4_put 7 = .ok (.aload_n 0, 1) := by decide +kernel
theorem dX4_put_8 : decode cX4_put 8 = .ok (.getfield 22, 3) := by decide +kernel
theorem dX4_put_11 : decode cX4_put 11 = .ok (.bipush 36, 2) := by decide +kernel
theorem dX4_put_13 : decode cX4_put 13 = .ok (.if_icmp .ge 23, 3) := by decide +kernel
theorem dX4_put_16 : decode cX4_put 16 = .ok (.aload_n 0, 1) := by decide +kernel
theorem dX4_put_17 : decode cX4_put 17 = .ok (.getfield 11, 3) := by decide +kernel
theorem dX4_put_20 : decode cX4_put 20 = .ok (.aload_n 0, 1) := by decide +kernel
theorem dX4_put_21 : decode cX4_put 21 = .ok (.getfield 22, 3) := by decide +kernel
theorem dX4_put_24 : decode cX4_put 24 = .ok (.iload_n 1, 1) := by decide +kernel
theorem dX4_put_25 : decode cX4_put 25 = .ok (.iastore, 1) := by decide +kernel
theorem dX4_put_26 : decode cX4_put 26 = .ok (.aload_n 0, 1) := by decide +kernel
theorem dX4_put_27 : decode cX4_put 27 = .ok (.dup, 1) := by decide +kernel
theorem dX4_put_28 : decode cX4_put 28 = .ok (.getfield 22, 3) := by decide +kernel
theorem dX4_put_31 : decode cX4_put 31 = .ok (.iconst 1, 1) := by decide +kernel
theorem dX4_put_32 : decode cX4_put 32 = .ok (.iadd, 1) := by decide +kernel
theorem dX4_put_33 : decode cX4_put 33 = .ok (.putfield 22, 3) := by decide +kernel
theorem dX4_put_36 : decode cX4_put 36 = .ok (.return_, 1) := by decide +kernel
theorem dX4_summed_0 : decode cX4_summed 0 = .ok (.iconst 3, 1) := by decide +kernel
theorem dX4_summed_1 : decode cX4_summed 1 = .ok (.iload_n 0, 1) := by decide +kernel
theorem dX4_summed_2 : decode cX4_summed 2 = .ok (.imul, 1) := by decide +kernel
theorem dX4_summed_3 : decode cX4_summed 3 = .ok (.iload_n 1, 1) := by decide +kernel
theorem dX4_summed_4 : decode cX4_summed 4 = .ok (.iadd, 1) := by decide +kernel
theorem dX4_summed_5 : decode cX4_summed 5 = .ok (.sipush 233, 3) := by decide +kernel
theorem dX4_summed_8 : decode cX4_summed 8 = .ok (.irem, 1) := by decide +kernel
theorem dX4_summed_9 : decode cX4_summed 9 = .ok (.ireturn, 1) := by decide +kernel
theorem dX6_copyFrom_0 : decode cX6_copyFrom 0 = .ok (.iconst 0, 1) := by decide +kernel
theorem dX6_copyFrom_1 : decode cX6_copyFrom 1 = .ok (.istore_n 2, 1) := by decide +kernel
theorem dX6_copyFrom_2 : decode cX6_copyFrom 2 = .ok (.iload_n 2, 1) := by decide +kernel
theorem dX6_copyFrom_3 : decode cX6_copyFrom 3 = .ok (.iconst 3, 1) := by decide +kernel
theorem dX6_copyFrom_4 : decode cX6_copyFrom 4 = .ok (.if_icmp .ge 21, 3) := by decide +kernel
theorem dX6_copyFrom_7 : decode cX6_copyFrom 7 = .ok (.aload_n 0, 1) := by decide +kernel
theorem dX6_copyFrom_8 : decode cX6_copyFrom 8 = .ok (.getfield 9, 3) := by decide +kernel
theorem dX6_copyFrom_11 : decode cX6_copyFrom 11 = .ok (.iload_n 2, 1) := by decide +kernel
theorem dX6_copyFrom_12 : decode cX6_copyFrom 12 = .ok (.aload_n 1, 1) := by decide +kernel
theorem dX6_copyFrom_13 : decode cX6_copyFrom 13 = .ok (.getfield 9, 3) := by decide +kernel
theorem dX6_copyFrom_16 : decode cX6_copyFrom 16 = .ok (.iload_n 2, 1) := by decide +kernel
theorem dX6_copyFrom_17 : decode cX6_copyFrom 17 = .ok (.iaload, 1) := by decide +kernel
theorem dX6_copyFrom_18 : decode cX6_copyFrom 18 = .ok (.iastore, 1) := by decide +kernel
theorem dX6_copyFrom_19 : decode cX6_copyFrom 19 = .ok (.iinc 2 1, 3) := by decide +kernel
theorem dX6_copyFrom_22 : decode cX6_copyFrom 22 = .ok (.goto (-20), 3) := by decide +kernel
theorem dX6_copyFrom_25 : decode cX6_copyFrom 25 = .ok (.iconst 0, 1) := by decide +kernel
theorem dX6_copyFrom_26 : decode cX6_copyFrom 26 = .ok (.istore_n 2, 1) := by decide +kernel
theorem dX6_copyFrom_27 : decode cX6_copyFrom 27 = .ok (.iload_n 2, 1) := by decide +kernel
theorem dX6_copyFrom_28 : decode cX6_copyFrom 28 = .ok (.iconst 4, 1) := by decide +kernel
theorem dX6_copyFrom_29 : decode cX6_copyFrom 29 = .ok (.if_icmp .ge 63, 3) := by decide +kernel
theorem dX6_copyFrom_32 : decode cX6_copyFrom 32 = .ok (.aload_n 0, 1) := by decide +kernel
theorem dX6_copyFrom_33 : decode cX6_copyFrom 33 = .ok (.getfield 15, 3) := by decide +kernel
theorem dX6_copyFrom_36 : decode cX6_copyFrom 36 = .ok (.iload_n 2, 1) := by decide +kernel
theorem dX6_copyFrom_37 : decode cX6_copyFrom 37 = .ok (.aload_n 1, 1) := by decide +kernel
theorem dX6_copyFrom_38 : decode cX6_copyFrom 38 = .ok (.getfield 15, 3) := by decide +kernel
theorem dX6_copyFrom_41 : decode cX6_copyFrom 41 = .ok (.iload_n 2, 1) := by decide +kernel
theorem dX6_copyFrom_42 : decode cX6_copyFrom 42 = .ok (.iaload, 1) := by decide +kernel
theorem dX6_copyFrom_43 : decode cX6_copyFrom 43 = .ok (.iastore, 1) := by decide +kernel
theorem dX6_copyFrom_44 : decode cX6_copyFrom 44 = .ok (.aload_n 0, 1) := by decide +kernel
theorem dX6_copyFrom_45 : decode cX6_copyFrom 45 = .ok (.getfield 18, 3) := by decide +kernel
theorem dX6_copyFrom_48 : decode cX6_copyFrom 48 = .ok (.iload_n 2, 1) := by decide +kernel
theorem dX6_copyFrom_49 : decode cX6_copyFrom 49 = .ok (.aload_n 1, 1) := by decide +kernel
theorem dX6_copyFrom_50 : decode cX6_copyFrom 50 = .ok (.getfield 18, 3) := by decide +kernel
theorem dX6_copyFrom_53 : decode cX6_copyFrom 53 = .ok (.iload_n 2, 1) := by decide +kernel
theorem dX6_copyFrom_54 : decode cX6_copyFrom 54 = .ok (.iaload, 1) := by decide +kernel
theorem dX6_copyFrom_55 : decode cX6_copyFrom 55 = .ok (.iastore, 1) := by decide +kernel
theorem dX6_copyFrom_56 : decode cX6_copyFrom 56 = .ok (.iconst 0, 1) := by decide +kernel
theorem dX6_copyFrom_57 : decode cX6_copyFrom 57 = .ok (.istore_n 3, 1) := by decide +kernel
theorem dX6_copyFrom_58 : decode cX6_copyFrom 58 = .ok (.iload_n 3, 1) := by decide +kernel
theorem dX6_copyFrom_59 : decode cX6_copyFrom 59 = .ok (.bipush 6, 2) := by decide +kernel
theorem dX6_copyFrom_61 : decode cX6_copyFrom 61 = .ok (.if_icmp .ge 25, 3) := by decide +kernel
theorem dX6_copyFrom_64 : decode cX6_copyFrom 64 = .ok (.aload_n 0, 1) := by decide +kernel
theorem dX6_copyFrom_65 : decode cX6_copyFrom 65 = .ok (.getfield 23, 3) := by decide +kernel
theorem dX6_copyFrom_68 : decode cX6_copyFrom 68 = .ok (.iload_n 2, 1) := by decide +kernel
theorem dX6_copyFrom_69 : decode cX6_copyFrom 69 = .ok (.aaload, 1) := by decide +kernel
theorem dX6_copyFrom_70 : decode cX6_copyFrom 70 = .ok (.iload_n 3, 1) := by decide +kernel
theorem dX6_copyFrom_71 : decode cX6_copyFrom 71 = .ok (.aload_n 1, 1) := by decide +kernel
theorem dX6_copyFrom_72 : decode cX6_copyFrom 72 = .ok (.getfield 23, 3) := by decide +kernel
theorem dX6_copyFrom_75 : decode cX6_copyFrom 75 = .ok (.iload_n 2, 1) := by decide +kernel
theorem dX6_copyFrom_76 : decode cX6_copyFrom 76 = .ok (.aaload, 1) := by decide +kernel
theorem dX6_copyFrom_77 : decode cX6_copyFrom 77 = .ok (.iload_n 3, 1) := by decide +kernel
theorem dX6_copyFrom_78 : decode cX6_copyFrom 78 = .ok (.iaload, 1) := by decide +kernel
theorem dX6_copyFrom_79 : decode cX6_copyFrom 79 = .ok (.iastore, 1) := by decide +kernel
theorem dX6_copyFrom_80 : decode cX6_copyFrom 80 = .ok (.iinc 3 1, 3) := by decide +kernel
theorem dX6_copyFrom_83 : decode cX6_copyFrom 83 = .ok (.goto (-25), 3) := by decide +kernel
theorem dX6_copyFrom_86 : decode cX6_copyFrom 86 = .ok (.iinc 2 1, 3) := by decide +kernel
theorem dX6_copyFrom_89 : decode cX6_copyFrom 89 = .ok (.goto (-62), 3) := by decide +kernel
theorem dX6_copyFrom_92 : decode cX6_copyFrom 92 = .ok (.return_, 1) := by decide +kernel
