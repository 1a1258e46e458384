theorem dX5_readTest_0 : decode cX5_readTest 0 = .ok (.aload_n 0, 1) := by decide +kernel
theorem dX5_readTest_1 : decode cX5_readTest 1 = .ok (.aload_n 1, 1) := by decide +kernel
theorem dX5_readTest_2 : decode cX5_readTest 2 = .ok (.invokevirtual 205, 3) := by decide +kernel
theorem dX5_readTest_5 : decode cX5_readTest 5 = .ok (.ifCond .ne 5, 3) := by decide +kernel
theorem dX5_readTest_8 : decode cX5_readTest 8 = .ok (.iconst 0, 1) := by decide +kernel
theorem dX5_readTest_9 : decode cX5_readTest 9 = .ok (.ireturn, 1) := by decide +kernel
theorem dX5_readTest_10 : decode cX5_readTest 10 = .ok (.iconst 0, 1) := by decide +kernel
theorem dX5_readTest_11 : decode cX5_readTest 11 = .ok (.istore_n 2, 1) := by decide +kernel
theorem dX5_readTest_12 : decode cX5_readTest 12 = .ok (.iload_n 2, 1) := by decide +kernel
theorem dX5_readTest_13 : decode cX5_readTest 13 = .ok (.sipush 1600, 3) := by decide +kernel
theorem dX5_readTest_16 : decode cX5_readTest 16 = .ok (.if_icmp .ge 37, 3) := by decide +kernel
theorem dX5_readTest_19 : decode cX5_readTest 19 = .ok (.aload_n 0, 1) := by decide +kernel
theorem dX5_readTest_20 : decode cX5_readTest 20 = .ok (.bipush 16, 2) := by decide +kernel
theorem dX5_readTest_22 : decode cX5_readTest 22 = .ok (.invokevirtual 208, 3) := by decide +kernel
theorem dX5_readTest_25 : decode cX5_readTest 25 = .ok (.ifCond .eq 28, 3) := by decide +kernel
theorem dX5_readTest_28 : decode cX5_readTest 28 = .ok (.aload_n 0, 1) := by decide +kernel
theorem dX5_readTest_29 : decode cX5_readTest 29 = .ok (.aload_n 1, 1) := by decide +kernel
theorem dX5_readTest_30 : decode cX5_readTest 30 = .ok (.invokevirtual 205, 3) := by decide +kernel
theorem dX5_readTest_33 : decode cX5_readTest 33 = .ok (.ifCond .eq 12, 3) := by decide +kernel
theorem dX5_readTest_36 : decode cX5_readTest 36 = .ok (.aload_n 1, 1) := by decide +kernel
theorem dX5_readTest_37 : decode cX5_readTest 37 = .ok (.bipush (-7), 2) := by decide +kernel
theorem dX5_readTest_39 : decode cX5_readTest 39 = .ok (.invokevirtual 211, 3) := by decide +kernel
theorem dX5_readTest_42 : decode cX5_readTest 42 = .ok (.ifCond .ne 5, 3) := by decide +kernel
theorem dX5_readTest_45 : decode cX5_readTest 45 = .ok (.iconst 0, 1) := by decide +kernel
theorem dX5_readTest_46 : decode cX5_readTest 46 = .ok (.ireturn, 1) := by decide +kernel
theorem dX5_readTest_47 : decode cX5_readTest 47 = .ok (.iinc 2 1, 3) := by decide +kernel
theorem dX5_readTest_50 : decode cX5_readTest 50 = .ok (.goto (-38), 3) := by decide +kernel
theorem dX5_readTest_53 : decode cX5_readTest 53 = .ok (.iconst 1, 1) := by decide +kernel
theorem dX5_readTest_54 : decode cX5_readTest 54 = .ok (.ireturn, 1) := by decide +kernel
theorem dX5_readBoth_0 : decode cX5_readBoth 0 = .ok (.aload_n 0, 1) := by decide +kernel
theorem dX5_readBoth_1 : decode cX5_readBoth 1 = .ok (.aload_n 1, 1) := by decide +kernel
theorem dX5_readBoth_2 : decode cX5_readBoth 2 = .ok (.invokevirtual 213, 3) := by decide +kernel
theorem dX5_readBoth_5 : decode cX5_readBoth 5 = .ok (.ifCond .ne 5, 3) := by decide +kernel
theorem dX5_readBoth_8 : decode cX5_readBoth 8 = .ok (.iconst 0, 1) := by decide +kernel
theorem dX5_readBoth_9 : decode cX5_readBoth 9 = .ok (.ireturn, 1) := by decide +kernel
theorem dX5_readBoth_10 : decode cX5_readBoth 10 = .ok (.iconst 0, 1) := by decide +kernel
theorem dX5_readBoth_11 : decode cX5_readBoth 11 = .ok (.istore_n 2, 1) := by decide +kernel
theorem dX5_readBoth_12 : decode cX5_readBoth 12 = .ok (.iload_n 2, 1) := by decide +kernel
theorem dX5_readBoth_13 : decode cX5_readBoth 13 = .ok (.sipush 1600, 3) := by decide +kernel
theorem dX5_readBoth_16 : decode cX5_readBoth 16 = .ok (.if_icmp .ge 37, 3) := by decide +kernel
theorem dX5_readBoth_19 : decode cX5_readBoth 19 = .ok (.aload_n 0, 1) := by decide +kernel
theorem dX5_readBoth_20 : decode cX5_readBoth 20 = .ok (.bipush 17, 2) := by decide +kernel
theorem dX5_readBoth_22 : decode cX5_readBoth 22 = .ok (.invokevirtual 208, 3) := by decide +kernel
theorem dX5_readBoth_25 : decode cX5_readBoth 25 = .ok (.ifCond .eq 28, 3) := by decide +kernel
theorem dX5_readBoth_28 : decode cX5_readBoth 28 = .ok (.aload_n 0, 1) := by decide +kernel
theorem dX5_readBoth_29 : decode cX5_readBoth 29 = .ok (.aload_n 1, 1) := by decide +kernel
theorem dX5_readBoth_30 : decode cX5_readBoth 30 = .ok (.invokevirtual 213, 3) := by decide +kernel
theorem dX5_readBoth_33 : decode cX5_readBoth 33 = .ok (.ifCond .eq 12, 3) := by decide +kernel
theorem dX5_readBoth_36 : decode cX5_readBoth 36 = .ok (.aload_n 1, 1) := by decide +kernel
theorem dX5_readBoth_37 : decode cX5_readBoth 37 = .ok (.bipush (-8), 2) := by decide +kernel
theorem dX5_readBoth_39 : decode cX5_readBoth 39 = .ok (.invokevirtual 211, 3) := by decide +kernel
theorem dX5_readBoth_42 : decode cX5_readBoth 42 = .ok (.ifCond .ne 5, 3) := by decide +kernel
theorem dX5_readBoth_45 : decode cX5_readBoth 45 = .ok (.iconst 0, 1) := by decide +kernel
theorem dX5_readBoth_46 : decode cX5_readBoth 46 = .ok (.ireturn, 1) := by decide +kernel
theorem dX5_readBoth_47 : decode cX5_readBoth 47 = .ok (.iinc 2 1, 3) := by decide +kernel
theorem dX5_readBoth_50 : decode cX5_readBoth 50 = .ok (.goto (-38), 3) := by decide +kernel
theorem dX5_readBoth_53 : decode cX5_readBoth 53 = .ok (.iconst 1, 1) := by decide +kernel
theorem dX5_readBoth_54 : decode cX5_readBoth 54 = .ok (.ireturn, 1) := by decide +kernel
theorem dX5_readFact_0 : decode cX5_readFact 0 = .ok (.iconst 0, 1) := by decide +kernel
theorem dX5_readFact_1 : decode cX5_readFact 1 = .ok (.istore_n 2, 1) := by decide +kernel
theorem dX5_readFact_2 : decode cX5_readFact 2 = .ok (.iconst 0, 1) := by decide +kernel
theorem dX5_readFact_3 : decode cX5_readFact 3 = .ok (.istore_n 3, 1) := by decide +kernel
theorem dX5_readFact_4 : decode cX5_readFact 4 = .ok (.iload_n 3, 1) := by decide +kernel
theorem dX5_readFact_5 : decode cX5_readFact 5 = .ok (.sipush 1600, 3) := by decide +kernel
theorem dX5_readFact_8 : decode cX5_readFact 8 = .ok (.if_icmp .ge 28, 3) := by decide +kernel
theorem dX5_readFact_11 : decode cX5_readFact 11 = .ok (.aload_n 0, 1) := by decide +kernel
theorem dX5_readFact_12 : decode cX5_readFact 12 = .ok (.bipush 18, 2) := by decide +kernel
theorem dX5_readFact_14 : decode cX5_readFact 14 = .ok (.invokevirtual 208, 3) := by decide +kernel
theorem dX5_readFact_17 : decode cX5_readFact 17 = .ok (.ifCond .eq 19, 3) := by decide +kernel
theorem dX5_readFact_20 : decode cX5_readFact 20 = .ok (.iload_n 2, 1) := by decide +kernel
theorem dX5_readFact_21 : decode cX5_readFact 21 = .ok (.ifCond .ne 7, 3) := by decide +kernel
theorem dX5_readFact_24 : decode cX5_readFact 24 = .ok (.iconst 1, 1) := by decide +kernel
theorem dX5_readFact_25 : decode cX5_readFact 25 = .ok (.goto 4, 3) := by decide +kernel
theorem dX5_readFact_28 : decode cX5_readFact 28 = .ok (.iconst 0, 1) := by decide +kernel
theorem dX5_readFact_29 : decode cX5_readFact 29 = .ok (.istore_n 2, 1) := by decide +kernel
theorem dX5_readFact_30 : decode cX5_readFact 30 = .ok (.iinc 3 1, 3) := by decide +kernel
theorem dX5_readFact_33 : decode cX5_readFact 33 = .ok (.goto (-29), 3) := by decide +kernel
theorem dX5_readFact_36 : decode cX5_readFact 36 = .ok (.aload_n 0, 1) := by decide +kernel
theorem dX5_readFact_37 : decode cX5_readFact 37 = .ok (.bipush 19, 2) := by decide +kernel
theorem dX5_readFact_39 : decode cX5_readFact 39 = .ok (.invokevirtual 208, 3) := by decide +kernel
theorem dX5_readFact_42 : decode cX5_readFact 42 = .ok (.ifCond .eq 13, 3) := by decide +kernel
theorem dX5_readFact_45 : decode cX5_readFact 45 = .ok (.aload_n 1, 1) := by decide +kernel
theorem dX5_readFact_46 : decode cX5_readFact 46 = .ok (.bipush (-5), 2) := by decide +kernel
theorem dX5_readFact_48 : decode cX5_readFact 48 = .ok (.invokevirtual 211, 3) := by decide +kernel
theorem dX5_readFact_51 : decode cX5_readFact 51 = .ok (.istore_n 3, 1) := by decide +kernel
theorem dX5_readFact_52 : decode cX5_readFact 52 = .ok (.goto 101, 3) := by decide +kernel
theorem dX5_readFact_55 : decode cX5_readFact 55 = .ok (.aload_n 0, 1) := by decide +kernel
theorem dX5_readFact_56 : decode cX5_readFact 56 = .ok (.bipush 91, 2) := by decide +kernel
theorem dX5_readFact_58 : decode cX5_readFact 58 = .ok (.invokevirtual 216, 3) := by decide +kernel
theorem dX5_readFact_61 : decode cX5_readFact 61 = .ok (.ifCond .eq 43, 3) := by decide +kernel
theorem dX5_readFact_64 : decode cX5_readFact 64 = .ok (.aload_n 0, 1) := by decide +kernel
theorem dX5_readFact_65 : decode cX5_readFact 65 = .ok (.invokevirtual 219, 3) := by decide +kernel
theorem dX5_readFact_68 : decode cX5_readFact 68 = .ok (.ifCond .eq 31, 3) := by decide +kernel
theorem dX5_readFact_71 : decode cX5_readFact 71 = .ok (.aload_n 0, 1) := by decide +kernel
theorem dX5_readFact_72 : decode cX5_readFact 72 = .ok (.aload_n 1, 1) := by decide +kernel
theorem dX5_readFact_73 : decode cX5_readFact 73 = .ok (.invokevirtual 183, 3) := by decide +kernel
theorem dX5_readFact_76 : decode cX5_readFact 76 = .ok (.ifCond .eq 23, 3) := by decide +kernel
theorem dX5_readFact_79 : decode cX5_readFact 79 = .ok (.aload_n 0, 1) := by decide +kernel
theorem dX5_readFact_80 : decode cX5_readFact 80 = .ok (.bipush 93, 2) := by decide +kernel
theorem dX5_readFact_82 : decode cX5_readFact 82 = .ok (.invokevirtual 105, 3) := by decide +kernel
theorem dX5_readFact_85 : decode cX5_readFact 85 = .ok (.ifCond .eq 14, 3) := by decide +kernel
theorem dX5_readFact_88 : decode cX5_readFact 88 = .ok (.aload_n 0, 1) := by decide +kernel
theorem dX5_readFact_89 : decode cX5_readFact 89 = .ok (.invokevirtual 223, 3) := by decide +kernel
theorem dX5_readFact_92 : decode cX5_readFact 92 = .ok (.ifCond .eq 7, 3) := by decide +kernel
theorem dX5_readFact_95 : decode cX5_readFact 95 = .ok (.iconst 1, 1) := by decide +kernel
theorem dX5_readFact_96 : decode cX5_readFact 96 = .ok (.goto 4, 3) := by decide +kernel
theorem dX5_readFact_99 : decode cX5_readFact 99 = .ok (.iconst 0, 1) := by decide +kernel
theorem dX5_readFact_100 : decode cX5_readFact 100 = .ok (.istore_n 3, 1) := by decide +kernel
theorem dX5_readFact_101 : decode cX5_readFact 101 = .ok (.goto 52, 3) := by decide +kernel
theorem dX5_readFact_104 : decode cX5_readFact 104 = .ok (.aload_n 0, 1) := by decide +kernel
theorem dX5_readFact_105 : decode cX5_readFact 105 = .ok (.aload_n 1, 1) := by decide +kernel
theorem dX5_readFact_106 : decode cX5_readFact 106 = .ok (.invokevirtual 226, 3) := by decide +kernel
theorem dX5_readFact_109 : decode cX5_readFact 109 = .ok (.istore_n 3, 1) := by decide +kernel
theorem dX5_readFact_110 : decode cX5_readFact 110 = .ok (.iload_n 3, 1) := by decide +kernel
theorem dX5_readFact_111 : decode cX5_readFact 111 = .ok (.ifCond .eq 10, 3) := by decide +kernel
theorem dX5_readFact_114 : decode cX5_readFact 114 = .ok (.aload_n 0, 1) := by decide +kernel
theorem dX5_readFact_115 : decode cX5_readFact 115 = .ok (.invokevirtual 229, 3) := by decide +kernel
theorem dX5_readFact_118 : decode cX5_readFact 118 = .ok (.goto 4, 3) := by decide +kernel
theorem dX5_readFact_121 : decode cX5_readFact 121 = .ok (.iconst (-1), 1) := by decide +kernel
theorem dX5_readFact_122 : decode cX5_readFact 122 = .ok (.istore 4, 2) := by decide +kernel
theorem dX5_readFact_124 : decode cX5_readFact 124 = .ok (.iload 4, 2) := by decide +kernel
theorem dX5_readFact_126 : decode cX5_readFact 126 = .ok (.iconst (-1), 1) := by decide +kernel
theorem dX5_readFact_127 : decode cX5_readFact 127 = .ok (.if_icmp .eq 24, 3) := by decide +kernel
theorem dX5_readFact_130 : decode cX5_readFact 130 = .ok (.aload_n 0, 1) := by decide +kernel
theorem dX5_readFact_131 : decode cX5_readFact 131 = .ok (.aload_n 1, 1) := by decide +kernel
theorem dX5_readFact_132 : decode cX5_readFact 132 = .ok (.invokevirtual 226, 3) := by decide +kernel
theorem dX5_readFact_135 : decode cX5_readFact 135 = .ok (.ifCond .eq 16, 3) := by decide +kernel
theorem dX5_readFact_138 : decode cX5_readFact 138 = .ok (.aload_n 1, 1) := by decide +kernel
theorem dX5_readFact_139 : decode cX5_readFact 139 = .ok (.iload 4, 2) := by decide +kernel
theorem dX5_readFact_141 : decode cX5_readFact 141 = .ok (.invokevirtual 211, 3) := by decide +kernel
theorem dX5_readFact_144 : decode cX5_readFact 144 = .ok (.ifCond .eq 7, 3) := by decide +kernel
theorem dX5_readFact_147 : decode cX5_readFact 147 = .ok (.iconst 1, 1) := by decide +kernel
theorem dX5_readFact_148 : decode cX5_readFact 148 = .ok (.goto 4, 3) := by decide +kernel
theorem dX5_readFact_151 : decode cX5_readFact 151 = .ok (.iconst 0, 1) := by decide +kernel
theorem dX5_readFact_152 : decode cX5_readFact 152 = .ok (.istore_n 3, 1) := by decide +kernel
theorem dX5_readFact_153 : decode cX5_readFact 153 = .ok (.iload_n 3, 1) := by decide +kernel
theorem dX5_readFact_154 : decode cX5_readFact 154 = .ok (.ifCond .eq 20, 3) := by decide +kernel
theorem dX5_readFact_157 : decode cX5_readFact 157 = .ok (.iload_n 2, 1) := by decide +kernel
theorem dX5_readFact_158 : decode cX5_readFact 158 = .ok (.ifCond .eq 12, 3) := by decide +kernel
theorem dX5_readFact_161 : decode cX5_readFact 161 = .ok (.aload_n 1, 1) := by decide +kernel
theorem dX5_readFact_162 : decode cX5_readFact 162 = .ok (.bipush (-6), 2) := by decide +kernel
theorem dX5_readFact_164 : decode cX5_readFact 164 = .ok (.invokevirtual 211, 3) := by decide +kernel
theorem dX5_readFact_167 : decode cX5_readFact 167 = .ok (.ifCond .eq 7, 3) := by decide +kernel
theorem dX5_readFact_170 : decode cX5_readFact 170 = .ok (.iconst 1, 1) := by decide +kernel
theorem dX5_readFact_171 : decode cX5_readFact 171 = .ok (.goto 4, 3) := by decide +kernel
theorem dX5_readFact_174 : decode cX5_readFact 174 = .ok (.iconst 0, 1) := by decide +kernel
theorem dX5_readFact_175 : decode cX5_readFact 175 = .ok (.ireturn, 1) := by decide +kernel
theorem dX5_readSum_0 : decode cX5_readSum 0 = .ok (.aload_n 0, 1) := by decide +kernel
theorem dX5_readSum_1 : decode cX5_readSum 1 = .ok (.aload_n 1, 1) := by decide +kernel
theorem dX5_readSum_2 : decode cX5_readSum 2 = .ok (.invokevirtual 232, 3) := by decide +kernel
theorem dX5_readSum_5 : decode cX5_readSum 5 = .ok (.ifCond .ne 5, 3) := by decide +kernel
theorem dX5_readSum_8 : decode cX5_readSum 8 = .ok (.iconst 0, 1) := by decide +kernel
theorem dX5_readSum_9 : decode cX5_readSum 9 = .ok (.ireturn, 1) := by decide +kernel
theorem dX5_readSum_10 : decode cX5_readSum 10 = .ok (.iconst 0, 1) := by decide +kernel
theorem dX5_readSum_11 : decode cX5_readSum 11 = .ok (.istore_n 2, 1) := by decide +kernel
theorem dX5_readSum_12 : decode cX5_readSum 12 = .ok (.iload_n 2, 1) := by decide +kernel
theorem dX5_readSum_13 : decode cX5_readSum 13 = .ok (.sipush 1600, 3) := by decide +kernel
theorem dX5_readSum_16 : decode cX5_readSum 16 = .ok (.if_icmp .ge 56, 3) := by decide +kernel
theorem dX5_readSum_19 : decode cX5_readSum 19 = .ok (.bipush (-12), 2) := by decide +kernel
theorem dX5_readSum_21 : decode cX5_readSum 21 = .ok (.istore_n 3, 1) := by decide +kernel
theorem dX5_readSum_22 : decode cX5_readSum 22 = .ok (.aload_n 0, 1) := by decide +kernel
theorem dX5_readSum_23 : decode cX5_readSum 23 = .ok (.bipush 45, 2) := by decide +kernel
theorem dX5_readSum_25 : decode cX5_readSum 25 = .ok (.invokevirtual 216, 3) := by decide +kernel
theorem dX5_readSum_28 : decode cX5_readSum 28 = .ok (.ifCond .eq 9, 3) := by decide +kernel
theorem dX5_readSum_31 : decode cX5_readSum 31 = .ok (.bipush (-13), 2) := by decide +kernel
theorem dX5_readSum_33 : decode cX5_readSum 33 = .ok (.istore_n 3, 1) := by decide +kernel
theorem dX5_readSum_34 : decode cX5_readSum 34 = .ok (.goto 14, 3) := by decide +kernel
theorem dX5_readSum_37 : decode cX5_readSum 37 = .ok (.aload_n 0, 1) := by decide +kernel
theorem dX5_readSum_38 : decode cX5_readSum 38 = .ok (.bipush 43, 2) := by decide +kernel
theorem dX5_readSum_40 : decode cX5_readSum 40 = .ok (.invokevirtual 216, 3) := by decide +kernel
theorem dX5_readSum_43 : decode cX5_readSum 43 = .ok (.ifCond .ne 5, 3) := by decide +kernel
theorem dX5_readSum_46 : decode cX5_readSum 46 = .ok (.iconst 1, 1) := by decide +kernel
theorem dX5_readSum_47 : decode cX5_readSum 47 = .ok (.ireturn, 1) := by decide +kernel
theorem dX5_readSum_48 : decode cX5_readSum 48 = .ok (.aload_n 0, 1) := by decide +kernel
theorem dX5_readSum_49 : decode cX5_readSum 49 = .ok (.aload_n 1, 1) := by decide +kernel
theorem dX5_readSum_50 : decode cX5_readSum 50 = .ok (.invokevirtual 232, 3) := by decide +kernel
theorem dX5_readSum_53 : decode cX5_readSum 53 = .ok (.ifCond .eq 11, 3) := by decide +kernel
theorem dX5_readSum_56 : decode cX5_readSum 56 = .ok (.aload_n 1, 1) := by decide +kernel
theorem dX5_readSum_57 : decode cX5_readSum 57 = .ok (.iload_n 3, 1) := by decide +kernel
theorem dX5_readSum_58 : decode cX5_readSum 58 = .ok (.invokevirtual 211, 3) := by decide +kernel
theorem dX5_readSum_61 : decode cX5_readSum 61 = .ok (.ifCond .ne 5, 3) := by decide +kernel
theorem dX5_readSum_64 : decode cX5_readSum 64 = .ok (.iconst 0, 1) := by decide +kernel
theorem dX5_readSum_65 : decode cX5_readSum 65 = .ok (.ireturn, 1) := by decide +kernel
theorem dX5_readSum_66 : decode cX5_readSum 66 = .ok (.iinc 2 1, 3) := by decide +kernel
theorem dX5_readSum_69 : decode cX5_readSum 69 = .ok (.goto (-57), 3) := by decide +kernel
theorem dX5_readSum_72 : decode cX5_readSum 72 = .ok (.iconst 0, 1) := by decide +kernel
theorem dX5_readSum_73 : decode cX5_readSum 73 = .ok (.ireturn, 1) := by decide +kernel
theorem dX5_readProduct_0 : decode cX5_readProduct 0 = .ok (.aload_n 0, 1) := by decide +kernel
theorem dX5_readProduct_1 : decode cX5_readProduct 1 = .ok (.aload_n 1, 1) := by decide +kernel
theorem dX5_readProduct_2 : decode cX5_readProduct 2 = .ok (.invokevirtual 235, 3) := by decide +kernel
theorem dX5_readProduct_5 : decode cX5_readProduct 5 = .ok (.ifCond .ne 5, 3) := by decide +kernel
theorem dX5_readProduct_8 : decode cX5_readProduct 8 = .ok (.iconst 0, 1) := by decide +kernel
theorem dX5_readProduct_9 : decode cX5_readProduct 9 = .ok (.ireturn, 1) := by decide +kernel
theorem dX5_readProduct_10 : decode cX5_readProduct 10 = .ok (.iconst 0, 1) := by decide +kernel
theorem dX5_readProduct_11 : decode cX5_readProduct 11 = .ok (.istore_n 2, 1) := by decide +kernel
theorem dX5_readProduct_12 : decode cX5_readProduct 12 = .ok (.iload_n 2, 1) := by decide +kernel
theorem dX5_readProduct_13 : decode cX5_readProduct 13 = .ok (.sipush 1600, 3) := by decide +kernel
theorem dX5_readProduct_16 : decode cX5_readProduct 16 = .ok (.if_icmp .ge 71, 3) := by decide +kernel
theorem dX5_readProduct_19 : decode cX5_readProduct 19 = .ok (.bipush (-14), 2) := by decide +kernel
theorem dX5_readProduct_21 : decode cX5_readProduct 21 = .ok (.istore_n 3, 1) := by decide +kernel
theorem dX5_readProduct_22 : decode cX5_readProduct 22 = .ok (.aload_n 0, 1) := by decide +kernel
theorem dX5_readProduct_23 : decode cX5_readProduct 23 = .ok (.bipush 47, 2) := by decide +kernel
theorem dX5_readProduct_25 : decode cX5_readProduct 25 = .ok (.invokevirtual 216, 3) := by decide +kernel
theorem dX5_readProduct_28 : decode cX5_readProduct 28 = .ok (.ifCond .eq 9, 3) := by decide +kernel
theorem dX5_readProduct_31 : decode cX5_readProduct 31 = .ok (.bipush (-15), 2) := by decide +kernel
theorem dX5_readProduct_33 : decode cX5_readProduct 33 = .ok (.istore_n 3, 1) := by decide +kernel
theorem dX5_readProduct_34 : decode cX5_readProduct 34 = .ok (.goto 29, 3) := by decide +kernel
theorem dX5_readProduct_37 : decode cX5_readProduct 37 = .ok (.aload_n 0, 1) := by decide +kernel
theorem dX5_readProduct_38 : decode cX5_readProduct 38 = .ok (.bipush 37, 2) := by decide +kernel
theorem dX5_readProduct_40 : decode cX5_readProduct 40 = .ok (.invokevirtual 216, 3) := by decide +kernel
theorem dX5_readProduct_43 : decode cX5_readProduct 43 = .ok (.ifCond .eq 9, 3) := by decide +kernel
theorem dX5_readProduct_46 : decode cX5_readProduct 46 = .ok (.bipush (-16), 2) := by decide +kernel
theorem dX5_readProduct_48 : decode cX5_readProduct 48 = .ok (.istore_n 3, 1) := by decide +kernel
theorem dX5_readProduct_49 : decode cX5_readProduct 49 = .ok (.goto 14, 3) := by decide +kernel
theorem dX5_readProduct_52 : decode cX5_readProduct 52 = .ok (.aload_n 0, 1) := by decide +kernel
theorem dX5_readProduct_53 : decode cX5_readProduct 53 = .ok (.bipush 42, 2) := by decide +kernel
theorem dX5_readProduct_55 : decode cX5_readProduct 55 = .ok (.invokevirtual 216, 3) := by decide +kernel
theorem dX5_readProduct_58 : decode cX5_readProduct 58 = .ok (.ifCond .ne 5, 3) := by decide +kernel
theorem dX5_readProduct_61 : decode cX5_readProduct 61 = .ok (.iconst 1, 1) := by decide +kernel
theorem dX5_readProduct_62 : decode cX5_readProduct 62 = .ok (.ireturn, 1) := by decide +kernel
theorem dX5_readProduct_63 : decode cX5_readProduct 63 = .ok (.aload_n 0, 1) := by decide +kernel
theorem dX5_readProduct_64 : decode cX5_readProduct 64 = .ok (.aload_n 1, 1) := by decide +kernel
theorem dX5_readProduct_65 : decode cX5_readProduct 65 = .ok (.invokevirtual 235, 3) := by decide +kernel
theorem dX5_readProduct_68 : decode cX5_readProduct 68 = .ok (.ifCond .eq 11, 3) := by decide +kernel
theorem dX5_readProduct_71 : decode cX5_readProduct 71 = .ok (.aload_n 1, 1) := by decide +kernel
theorem dX5_readProduct_72 : decode cX5_readProduct 72 = .ok (.iload_n 3, 1) := by decide +kernel
theorem dX5_readProduct_73 : decode cX5_readProduct 73 = .ok (.invokevirtual 211, 3) := by decide +kernel
theorem dX5_readProduct_76 : decode cX5_readProduct 76 = .ok (.ifCond .ne 5, 3) := by decide +kernel
theorem dX5_readProduct_79 : decode cX5_readProduct 79 = .ok (.iconst 0, 1) := by decide +kernel
theorem dX5_readProduct_80 : decode cX5_readProduct 80 = .ok (.ireturn, 1) := by decide +kernel
theorem dX5_readProduct_81 : decode cX5_readProduct 81 = .ok (.iinc 2 1, 3) := by decide +kernel
theorem dX5_readProduct_84 : decode cX5_readProduct 84 = .ok (.goto (-72), 3) := by decide +kernel
theorem dX5_readProduct_87 : decode cX5_readProduct 87 = .ok (.iconst 0, 1) := by decide +kernel
theorem dX5_readProduct_88 : decode cX5_readProduct 88 = .ok (.ireturn, 1) := by decide +kernel
theorem dX5_readPart_0 : decode cX5_readPart 0 = .ok (.aload_n 0, 1) := by decide +kernel
theorem dX5_readPart_1 : decode cX5_readPart 1 = .ok (.getfield 30, 3) := by decide +kernel
theorem dX5_readPart_4 : decode cX5_readPart 4 = .ok (.invokevirtual 54, 3) := by decide +kernel
theorem dX5_readPart_7 : decode cX5_readPart 7 = .ok (.aload_n 0, 1) := by decide +kernel
theorem dX5_readPart_8 : decode cX5_readPart 8 = .ok (.getfield 30, 3) := by decide +kernel
theorem dX5_readPart_11 : decode cX5_readPart 11 = .ok (.getfield 57, 3) := by decide +kernel
theorem dX5_readPart_14 : decode cX5_readPart 14 = .ok (.iconst 2, 1) := by decide +kernel
theorem dX5_readPart_15 : decode cX5_readPart 15 = .ok (.if_icmp .ne 22, 3) := by decide +kernel
theorem dX5_readPart_18 : decode cX5_readPart 18 = .ok (.aload_n 0, 1) := by decide +kernel
theorem dX5_readPart_19 : decode cX5_readPart 19 = .ok (.getfield 30, 3) := by decide +kernel
theorem dX5_readPart_22 : decode cX5_readPart 22 = .ok (.invokevirtual 125, 3) := by decide +kernel
theorem dX5_readPart_25 : decode cX5_readPart 25 = .ok (.aload_n 1, 1) := by decide +kernel
theorem dX5_readPart_26 : decode cX5_readPart 26 = .ok (.aload_n 0, 1) := by decide +kernel
theorem dX5_readPart_27 : decode cX5_readPart 27 = .ok (.getfield 30, 3) := by decide +kernel
theorem dX5_readPart_30 : decode cX5_readPart 30 = .ok (.getfield 112, 3) := by decide +kernel
theorem dX5_readPart_33 : decode cX5_readPart 33 = .ok (.invokevirtual 211, 3) := by decide +kernel
theorem dX5_readPart_36 : decode cX5_readPart 36 = .ok (.ireturn, 1) := by decide +kernel
theorem dX5_readPart_37 : decode cX5_readPart 37 = .ok (.aload_n 0, 1) := by decide +kernel
theorem dX5_readPart_38 : decode cX5_readPart 38 = .ok (.bipush 40, 2) := by decide +kernel
theorem dX5_readPart_40 : decode cX5_readPart 40 = .ok (.invokevirtual 216, 3) := by decide +kernel
theorem dX5_readPart_43 : decode cX5_readPart 43 = .ok (.ifCond .eq 40, 3) := by decide +kernel
theorem dX5_readPart_46 : decode cX5_readPart 46 = .ok (.aload_n 0, 1) := by decide +kernel
theorem dX5_readPart_47 : decode cX5_readPart 47 = .ok (.invokevirtual 219, 3) := by decide +kernel
theorem dX5_readPart_50 : decode cX5_readPart 50 = .ok (.ifCond .eq 31, 3) := by decide +kernel
theorem dX5_readPart_53 : decode cX5_readPart 53 = .ok (.aload_n 0, 1) := by decide +kernel
theorem dX5_readPart_54 : decode cX5_readPart 54 = .ok (.aload_n 1, 1) := by decide +kernel
theorem dX5_readPart_55 : decode cX5_readPart 55 = .ok (.invokevirtual 226, 3) := by decide +kernel
theorem dX5_readPart_58 : decode cX5_readPart 58 = .ok (.ifCond .eq 23, 3) := by decide +kernel
theorem dX5_readPart_61 : decode cX5_readPart 61 = .ok (.aload_n 0, 1) := by decide +kernel
theorem dX5_readPart_62 : decode cX5_readPart 62 = .ok (.bipush 41, 2) := by decide +kernel
theorem dX5_readPart_64 : decode cX5_readPart 64 = .ok (.invokevirtual 105, 3) := by decide +kernel
theorem dX5_readPart_67 : decode cX5_readPart 67 = .ok (.ifCond .eq 14, 3) := by decide +kernel
theorem dX5_readPart_70 : decode cX5_readPart 70 = .ok (.aload_n 0, 1) := by decide +kernel
theorem dX5_readPart_71 : decode cX5_readPart 71 = .ok (.invokevirtual 223, 3) := by decide +kernel
theorem dX5_readPart_74 : decode cX5_readPart 74 = .ok (.ifCond .eq 7, 3) := by decide +kernel
theorem dX5_readPart_77 : decode cX5_readPart 77 = .ok (.iconst 1, 1) := by decide +kernel
theorem dX5_readPart_78 : decode cX5_readPart 78 = .ok (.goto 4, 3) := by decide +kernel
theorem dX5_readPart_81 : decode cX5_readPart 81 = .ok (.iconst 0, 1) := by decide +kernel
theorem dX5_readPart_82 : decode cX5_readPart 82 = .ok (.ireturn, 1) := by decide +kernel
theorem dX5_readPart_83 : decode cX5_readPart 83 = .ok (.aload_n 0, 1) := by decide +kernel
theorem dX5_readPart_84 : decode cX5_readPart 84 = .ok (.bipush 20, 2) := by decide +kernel
theorem dX5_readPart_86 : decode cX5_readPart 86 = .ok (.invokevirtual 208, 3) := by decide +kernel
theorem dX5_readPart_89 : decode cX5_readPart 89 = .ok (.ifCond .eq 9, 3) := by decide +kernel
theorem dX5_readPart_92 : decode cX5_readPart 92 = .ok (.aload_n 1, 1) := by decide +kernel
theorem dX5_readPart_93 : decode cX5_readPart 93 = .ok (.iconst (-1), 1) := by decide +kernel
theorem dX5_readPart_94 : decode cX5_readPart 94 = .ok (.invokevirtual 211, 3) := by decide +kernel
theorem dX5_readPart_97 : decode cX5_readPart 97 = .ok (.ireturn, 1) := by decide +kernel
theorem dX5_readPart_98 : decode cX5_readPart 98 = .ok (.aload_n 0, 1) := by decide +kernel
theorem dX5_readPart_99 : decode cX5_readPart 99 = .ok (.bipush 21, 2) := by decide +kernel
theorem dX5_readPart_101 : decode cX5_readPart 101 = .ok (.invokevirtual 208, 3) := by decide +kernel
theorem dX5_readPart_104 : decode cX5_readPart 104 = .ok (.ifCond .eq 10, 3) := by decide +kernel
theorem dX5_readPart_107 : decode cX5_readPart 107 = .ok (.aload_n 1, 1) := by decide +kernel
theorem dX5_readPart_108 : decode cX5_readPart 108 = .ok (.bipush (-2), 2) := by decide +kernel
theorem dX5_readPart_110 : decode cX5_readPart 110 = .ok (.invokevirtual 211, 3) := by decide +kernel
theorem dX5_readPart_113 : decode cX5_readPart 113 = .ok (.ireturn, 1) := by decide +kernel
theorem dX5_readPart_114 : decode cX5_readPart 114 = .ok (.aload_n 0, 1) := by decide +kernel
theorem dX5_readPart_115 : decode cX5_readPart 115 = .ok (.bipush 22, 2) := by decide +kernel
theorem dX5_readPart_117 : decode cX5_readPart 117 = .ok (.invokevirtual 208, 3) := by decide +kernel
theorem dX5_readPart_120 : decode cX5_readPart 120 = .ok (.ifCond .eq 10, 3) := by decide +kernel
theorem dX5_readPart_123 : decode cX5_readPart 123 = .ok (.aload_n 1, 1) := by decide +kernel
theorem dX5_readPart_124 : decode cX5_readPart 124 = .ok (.bipush (-3), 2) := by decide +kernel
theorem dX5_readPart_126 : decode cX5_readPart 126 = .ok (.invokevirtual 211, 3) := by decide +kernel
theorem dX5_readPart_129 : decode cX5_readPart 129 = .ok (.ireturn, 1) := by decide +kernel
theorem dX5_readPart_130 : decode cX5_readPart 130 = .ok (.aload_n 0, 1) := by decide +kernel
theorem dX5_readPart_131 : decode cX5_readPart 131 = .ok (.bipush 23, 2) := by decide +kernel
theorem dX5_readPart_133 : decode cX5_readPart 133 = .ok (.invokevirtual 208, 3) := by decide +kernel
theorem dX5_readPart_136 : decode cX5_readPart 136 = .ok (.ifCond .eq 10, 3) := by decide +kernel
theorem dX5_readPart_139 : decode cX5_readPart 139 = .ok (.aload_n 1, 1) := by decide +kernel
theorem dX5_readPart_140 : decode cX5_readPart 140 = .ok (.bipush (-4), 2) := by decide +kernel
theorem dX5_readPart_142 : decode cX5_readPart 142 = .ok (.invokevirtual 211, 3) := by decide +kernel
theorem dX5_readPart_145 : decode cX5_readPart 145 = .ok (.ireturn, 1) := by decide +kernel
theorem dX5_readPart_146 : decode cX5_readPart 146 = .ok (.aload_n 0, 1) := by decide +kernel
theorem dX5_readPart_147 : decode cX5_readPart 147 = .ok (.bipush 24, 2) := by decide +kernel
theorem dX5_readPart_149 : decode cX5_readPart 149 = .ok (.invokevirtual 208, 3) := by decide +kernel
theorem dX5_readPart_152 : decode cX5_readPart 152 = .ok (.ifCond .eq 26, 3) := by decide +kernel
theorem dX5_readPart_155 : decode cX5_readPart 155 = .ok (.aload_n 0, 1) := by decide +kernel
theorem dX5_readPart_156 : decode cX5_readPart 156 = .ok (.aload_n 1, 1) := by decide +kernel
theorem dX5_readPart_157 : decode cX5_readPart 157 = .ok (.invokevirtual 238, 3) := by decide +kernel
theorem dX5_readPart_160 : decode cX5_readPart 160 = .ok (.ifCond .eq 16, 3) := by decide +kernel
theorem dX5_readPart_163 : decode cX5_readPart 163 = .ok (.aload_n 1, 1) := by decide +kernel
theorem dX5_readPart_164 : decode cX5_readPart 164 = .ok (.bipush (-17), 2) := by decide +kernel
theorem dX5_readPart_166 : decode cX5_readPart 166 = .ok (.invokevirtual 211, 3) := by decide +kernel
theorem dX5_readPart_169 : decode cX5_readPart 169 = .ok (.ifCond .eq 7, 3) := by decide +kernel
theorem dX5_readPart_172 : decode cX5_readPart 172 = .ok (.iconst 1, 1) := by decide +kernel
theorem dX5_readPart_173 : decode cX5_readPart 173 = .ok (.goto 4, 3) := by decide +kernel
theorem dX5_readPart_176 : decode cX5_readPart 176 = .ok (.iconst 0, 1) := by decide +kernel
theorem dX5_readPart_177 : decode cX5_readPart 177 = .ok (.ireturn, 1) := by decide +kernel
theorem dX5_readPart_178 : decode cX5_readPart 178 = .ok (.aload_n 0, 1) := by decide +kernel
theorem dX5_readPart_179 : decode cX5_readPart 179 = .ok (.bipush 25, 2) := by decide +kernel
theorem dX5_readPart_181 : decode cX5_readPart 181 = .ok (.invokevirtual 208, 3) := by decide +kernel
theorem dX5_readPart_184 : decode cX5_readPart 184 = .ok (.ifCond .eq 26, 3) := by decide +kernel
theorem dX5_readPart_187 : decode cX5_readPart 187 = .ok (.aload_n 0, 1) := by decide +kernel
theorem dX5_readPart_188 : decode cX5_readPart 188 = .ok (.aload_n 1, 1) := by decide +kernel
theorem dX5_readPart_189 : decode cX5_readPart 189 = .ok (.invokevirtual 238, 3) := by decide +kernel
theorem dX5_readPart_192 : decode cX5_readPart 192 = .ok (.ifCond .eq 16, 3) := by decide +kernel
theorem dX5_readPart_195 : decode cX5_readPart 195 = .ok (.aload_n 1, 1) := by decide +kernel
theorem dX5_readPart_196 : decode cX5_readPart 196 = .ok (.bipush (-18), 2) := by decide +kernel
theorem dX5_readPart_198 : decode cX5_readPart 198 = .ok (.invokevirtual 211, 3) := by decide +kernel
theorem dX5_readPart_201 : decode cX5_readPart 201 = .ok (.ifCond .eq 7, 3) := by decide +kernel
theorem dX5_readPart_204 : decode cX5_readPart 204 = .ok (.iconst 1, 1) := by decide +kernel
theorem dX5_readPart_205 : decode cX5_readPart 205 = .ok (.goto 4, 3) := by decide +kernel
theorem dX5_readPart_208 : decode cX5_readPart 208 = .ok (.iconst 0, 1) := by decide +kernel
theorem dX5_readPart_209 : decode cX5_readPart 209 = .ok (.ireturn, 1) := by decide +kernel
theorem dX5_readPart_210 : decode cX5_readPart 210 = .ok (.aload_n 0, 1) := by decide +kernel
theorem dX5_readPart_211 : decode cX5_readPart 211 = .ok (.iconst 1, 1) := by decide +kernel
theorem dX5_readPart_212 : decode cX5_readPart 212 = .ok (.invokevirtual 132, 3) := by decide +kernel
theorem dX5_readPart_215 : decode cX5_readPart 215 = .ok (.ireturn, 1) := by decide +kernel
theorem dX5_readPair_0 : decode cX5_readPair 0 = .ok (.aload_n 0, 1) := by decide +kernel
theorem dX5_readPair_1 : decode cX5_readPair 1 = .ok (.bipush 40, 2) := by decide +kernel
theorem dX5_readPair_3 : decode cX5_readPair 3 = .ok (.invokevirtual 105, 3) := by decide +kernel
theorem dX5_readPair_6 : decode cX5_readPair 6 = .ok (.ifCond .eq 55, 3) := by decide +kernel
theorem dX5_readPair_9 : decode cX5_readPair 9 = .ok (.aload_n 0, 1) := by decide +kernel
theorem dX5_readPair_10 : decode cX5_readPair 10 = .ok (.invokevirtual 219, 3) := by decide +kernel
theorem dX5_readPair_13 : decode cX5_readPair 13 = .ok (.ifCond .eq 48, 3) := by decide +kernel
theorem dX5_readPair_16 : decode cX5_readPair 16 = .ok (.aload_n 0, 1) := by decide +kernel
theorem dX5_readPair_17 : decode cX5_readPair 17 = .ok (.aload_n 1, 1) := by decide +kernel
theorem dX5_readPair_18 : decode cX5_readPair 18 = .ok (.invokevirtual 226, 3) := by decide +kernel
theorem dX5_readPair_21 : decode cX5_readPair 21 = .ok (.ifCond .eq 40, 3) := by decide +kernel
theorem dX5_readPair_24 : decode cX5_readPair 24 = .ok (.aload_n 0, 1) := by decide +kernel
theorem dX5_readPair_25 : decode cX5_readPair 25 = .ok (.bipush 44, 2) := by decide +kernel
theorem dX5_readPair_27 : decode cX5_readPair 27 = .ok (.invokevirtual 105, 3) := by decide +kernel
theorem dX5_readPair_30 : decode cX5_readPair 30 = .ok (.ifCond .eq 31, 3) := by decide +kernel
theorem dX5_readPair_33 : decode cX5_readPair 33 = .ok (.aload_n 0, 1) := by decide +kernel
theorem dX5_readPair_34 : decode cX5_readPair 34 = .ok (.aload_n 1, 1) := by decide +kernel
theorem dX5_readPair_35 : decode cX5_readPair 35 = .ok (.invokevirtual 226, 3) := by decide +kernel
theorem dX5_readPair_38 : decode cX5_readPair 38 = .ok (.ifCond .eq 23, 3) := by decide +kernel
theorem dX5_readPair_41 : decode cX5_readPair 41 = .ok (.aload_n 0, 1) := by decide +kernel
theorem dX5_readPair_42 : decode cX5_readPair 42 = .ok (.bipush 41, 2) := by decide +kernel
theorem dX5_readPair_44 : decode cX5_readPair 44 = .ok (.invokevirtual 105, 3) := by decide +kernel
theorem dX5_readPair_47 : decode cX5_readPair 47 = .ok (.ifCond .eq 14, 3) := by decide +kernel
theorem dX5_readPair_50 : decode cX5_readPair 50 = .ok (.aload_n 0, 1) := by decide +kernel
theorem dX5_readPair_51 : decode cX5_readPair 51 = .ok (.invokevirtual 223, 3) := by decide +kernel
theorem dX5_readPair_54 : decode cX5_readPair 54 = .ok (.ifCond .eq 7, 3) := by decide +kernel
theorem dX5_readPair_57 : decode cX5_readPair 57 = .ok (.iconst 1, 1) := by decide +kernel
theorem dX5_readPair_58 : decode cX5_readPair 58 = .ok (.goto 4, 3) := by decide +kernel
theorem dX5_readPair_61 : decode cX5_readPair 61 = .ok (.iconst 0, 1) := by decide +kernel
theorem dX5_readPair_62 : decode cX5_readPair 62 = .ok (.ireturn, 1) := by decide +kernel
