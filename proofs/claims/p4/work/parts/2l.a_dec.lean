theorem dX9_workOf_0 : decode cX9_workOf 0 = .ok (.iconst 0, 1) := by decide +kernel
theorem dX9_workOf_1 : decode cX9_workOf 1 = .ok (.istore_n 2, 1) := by decide +kernel
theorem dX9_workOf_2 : decode cX9_workOf 2 = .ok (.iconst 0, 1) := by decide +kernel
theorem dX9_workOf_3 : decode cX9_workOf 3 = .ok (.istore_n 3, 1) := by decide +kernel
theorem dX9_workOf_4 : decode cX9_workOf 4 = .ok (.iload_n 3, 1) := by decide +kernel
theorem dX9_workOf_5 : decode cX9_workOf 5 = .ok (.aload_n 0, 1) := by decide +kernel
theorem dX9_workOf_6 : decode cX9_workOf 6 = .ok (.getfield 9, 3) := by decide +kernel
theorem dX9_workOf_9 : decode cX9_workOf 9 = .ok (.iconst 2, 1) := by decide +kernel
theorem dX9_workOf_10 : decode cX9_workOf 10 = .ok (.iaload, 1) := by decide +kernel
theorem dX9_workOf_11 : decode cX9_workOf 11 = .ok (.if_icmp .ge 41, 3) := by decide +kernel
theorem dX9_workOf_14 : decode cX9_workOf 14 = .ok (.aload_n 0, 1) := by decide +kernel
theorem dX9_workOf_15 : decode cX9_workOf 15 = .ok (.getfield 63, 3) := by decide +kernel
theorem dX9_workOf_18 : decode cX9_workOf 18 = .ok (.iload_n 3, 1) := by decide +kernel
theorem dX9_workOf_19 : decode cX9_workOf 19 = .ok (.iload_n 1, 1) := by decide +kernel
theorem dX9_workOf_20 : decode cX9_workOf 20 = .ok (.invokevirtual 108, 3) := by decide +kernel
theorem dX9_workOf_23 : decode cX9_workOf 23 = .ok (.istore 4, 2) := by decide +kernel
theorem dX9_workOf_25 : decode cX9_workOf 25 = .ok (.iload 4, 2) := by decide +kernel
theorem dX9_workOf_27 : decode cX9_workOf 27 = .ok (.iconst (-1), 1) := by decide +kernel
theorem dX9_workOf_28 : decode cX9_workOf 28 = .ok (.if_icmp .eq 18, 3) := by decide +kernel
theorem dX9_workOf_31 : decode cX9_workOf 31 = .ok (.iload_n 2, 1) := by decide +kernel
theorem dX9_workOf_32 : decode cX9_workOf 32 = .ok (.aload_n 0, 1) := by decide +kernel
theorem dX9_workOf_33 : decode cX9_workOf 33 = .ok (.getfield 63, 3) := by decide +kernel
theorem dX9_workOf_36 : decode cX9_workOf 36 = .ok (.getfield 71, 3) := by decide +kernel
theorem dX9_workOf_39 : decode cX9_workOf 39 = .ok (.iload_n 3, 1) := by decide +kernel
theorem dX9_workOf_40 : decode cX9_workOf 40 = .ok (.iaload, 1) := by decide +kernel
theorem dX9_workOf_41 : decode cX9_workOf 41 = .ok (.iload 4, 2) := by decide +kernel
theorem dX9_workOf_43 : decode cX9_workOf 43 = .ok (.isub, 1) := by decide +kernel
theorem dX9_workOf_44 : decode cX9_workOf 44 = .ok (.iadd, 1) := by decide +kernel
theorem dX9_workOf_45 : decode cX9_workOf 45 = .ok (.istore_n 2, 1) := by decide +kernel
theorem dX9_workOf_46 : decode cX9_workOf 46 = .ok (.iinc 3 1, 3) := by decide +kernel
theorem dX9_workOf_49 : decode cX9_workOf 49 = .ok (.goto (-45), 3) := by decide +kernel
theorem dX9_workOf_52 : decode cX9_workOf 52 = .ok (.iload_n 2, 1) := by decide +kernel
theorem dX9_workOf_53 : decode cX9_workOf 53 = .ok (.ireturn, 1) := by decide +kernel
theorem dX10_minutesOf_0 : decode cX10_minutesOf 0 = .ok (.aload_n 1, 1) := by decide +kernel
theorem dX10_minutesOf_1 : decode cX10_minutesOf 1 = .ok (.getfield 18, 3) := by decide +kernel
theorem dX10_minutesOf_4 : decode cX10_minutesOf 4 = .ok (.iconst 0, 1) := by decide +kernel
theorem dX10_minutesOf_5 : decode cX10_minutesOf 5 = .ok (.iaload, 1) := by decide +kernel
theorem dX10_minutesOf_6 : decode cX10_minutesOf 6 = .ok (.istore 4, 2) := by decide +kernel
theorem dX10_minutesOf_8 : decode cX10_minutesOf 8 = .ok (.aload_n 1, 1) := by decide +kernel
theorem dX10_minutesOf_9 : decode cX10_minutesOf 9 = .ok (.iconst 0, 1) := by decide +kernel
theorem dX10_minutesOf_10 : decode cX10_minutesOf 10 = .ok (.iload_n 2, 1) := by decide +kernel
theorem dX10_minutesOf_11 : decode cX10_minutesOf 11 = .ok (.invokevirtual 23, 3) := by decide +kernel
theorem dX10_minutesOf_14 : decode cX10_minutesOf 14 = .ok (.ifCond .ne 5, 3) := by decide +kernel
theorem dX10_minutesOf_17 : decode cX10_minutesOf 17 = .ok (.iconst (-1), 1) := by decide +kernel
theorem dX10_minutesOf_18 : decode cX10_minutesOf 18 = .ok (.ireturn, 1) := by decide +kernel
theorem dX10_minutesOf_19 : decode cX10_minutesOf 19 = .ok (.aload_n 0, 1) := by decide +kernel
theorem dX10_minutesOf_20 : decode cX10_minutesOf 20 = .ok (.aload_n 1, 1) := by decide +kernel
theorem dX10_minutesOf_21 : decode cX10_minutesOf 21 = .ok (.iload 4, 2) := by decide +kernel
theorem dX10_minutesOf_23 : decode cX10_minutesOf 23 = .ok (.invokevirtual 27, 3) := by decide +kernel
theorem dX10_minutesOf_26 : decode cX10_minutesOf 26 = .ok (.iload_n 3, 1) := by decide +kernel
theorem dX10_minutesOf_27 : decode cX10_minutesOf 27 = .ok (.iconst 1, 1) := by decide +kernel
theorem dX10_minutesOf_28 : decode cX10_minutesOf 28 = .ok (.iload 4, 2) := by decide +kernel
theorem dX10_minutesOf_30 : decode cX10_minutesOf 30 = .ok (.ishl, 1) := by decide +kernel
theorem dX10_minutesOf_31 : decode cX10_minutesOf 31 = .ok (.iconst 1, 1) := by decide +kernel
theorem dX10_minutesOf_32 : decode cX10_minutesOf 32 = .ok (.isub, 1) := by decide +kernel
theorem dX10_minutesOf_33 : decode cX10_minutesOf 33 = .ok (.iand, 1) := by decide +kernel
theorem dX10_minutesOf_34 : decode cX10_minutesOf 34 = .ok (.iconst 1, 1) := by decide +kernel
theorem dX10_minutesOf_35 : decode cX10_minutesOf 35 = .ok (.iload_n 2, 1) := by decide +kernel
theorem dX10_minutesOf_36 : decode cX10_minutesOf 36 = .ok (.ishl, 1) := by decide +kernel
theorem dX10_minutesOf_37 : decode cX10_minutesOf 37 = .ok (.ior, 1) := by decide +kernel
theorem dX10_minutesOf_38 : decode cX10_minutesOf 38 = .ok (.istore 5, 2) := by decide +kernel
theorem dX10_minutesOf_40 : decode cX10_minutesOf 40 = .ok (.aload_n 0, 1) := by decide +kernel
theorem dX10_minutesOf_41 : decode cX10_minutesOf 41 = .ok (.iload 5, 2) := by decide +kernel
theorem dX10_minutesOf_43 : decode cX10_minutesOf 43 = .ok (.iload_n 2, 1) := by decide +kernel
theorem dX10_minutesOf_44 : decode cX10_minutesOf 44 = .ok (.invokevirtual 31, 3) := by decide +kernel
theorem dX10_minutesOf_47 : decode cX10_minutesOf 47 = .ok (.istore 6, 2) := by decide +kernel
theorem dX10_minutesOf_49 : decode cX10_minutesOf 49 = .ok (.iload 6, 2) := by decide +kernel
theorem dX10_minutesOf_51 : decode cX10_minutesOf 51 = .ok (.ldc 35, 2) := by decide +kernel
theorem dX10_minutesOf_53 : decode cX10_minutesOf 53 = .ok (.if_icmp .ge 8, 3) := by decide +kernel
theorem dX10_minutesOf_56 : decode cX10_minutesOf 56 = .ok (.iload 6, 2) := by decide +kernel
theorem dX10_minutesOf_58 : decode cX10_minutesOf 58 = .ok (.goto 4, 3) := by decide +kernel
theorem dX10_minutesOf_61 : decode cX10_minutesOf 61 = .ok (.iconst (-1), 1) := by decide +kernel
theorem dX10_minutesOf_62 : decode cX10_minutesOf 62 = .ok (.ireturn, 1) := by decide +kernel
theorem dX10_measureWays_0 : decode cX10_measureWays 0 = .ok (.iconst 0, 1) := by decide +kernel
theorem dX10_measureWays_1 : decode cX10_measureWays 1 = .ok (.istore_n 3, 1) := by decide +kernel
theorem dX10_measureWays_2 : decode cX10_measureWays 2 = .ok (.iload_n 3, 1) := by decide +kernel
theorem dX10_measureWays_3 : decode cX10_measureWays 3 = .ok (.bipush 64, 2) := by decide +kernel
theorem dX10_measureWays_5 : decode cX10_measureWays 5 = .ok (.if_icmp .ge 32, 3) := by decide +kernel
theorem dX10_measureWays_8 : decode cX10_measureWays 8 = .ok (.aload_n 0, 1) := by decide +kernel
theorem dX10_measureWays_9 : decode cX10_measureWays 9 = .ok (.getfield 9, 3) := by decide +kernel
theorem dX10_measureWays_12 : decode cX10_measureWays 12 = .ok (.iload_n 3, 1) := by decide +kernel
theorem dX10_measureWays_13 : decode cX10_measureWays 13 = .ok (.iload_n 3, 1) := by decide +kernel
theorem dX10_measureWays_14 : decode cX10_measureWays 14 = .ok (.bipush 8, 2) := by decide +kernel
theorem dX10_measureWays_16 : decode cX10_measureWays 16 = .ok (.idiv, 1) := by decide +kernel
theorem dX10_measureWays_17 : decode cX10_measureWays 17 = .ok (.iload_n 3, 1) := by decide +kernel
theorem dX10_measureWays_18 : decode cX10_measureWays 18 = .ok (.bipush 8, 2) := by decide +kernel
theorem dX10_measureWays_20 : decode cX10_measureWays 20 = .ok (.irem, 1) := by decide +kernel
theorem dX10_measureWays_21 : decode cX10_measureWays 21 = .ok (.if_icmp .ne 7, 3) := by decide +kernel
theorem dX10_measureWays_24 : decode cX10_measureWays 24 = .ok (.iconst 0, 1) := by decide +kernel
theorem dX10_measureWays_25 : decode cX10_measureWays 25 = .ok (.goto 5, 3) := by decide +kernel
theorem dX10_measureWays_28 : decode cX10_measureWays 28 = .ok (.ldc 35, 2) := by decide +kernel
theorem dX10_measureWays_30 : decode cX10_measureWays 30 = .ok (.iastore, 1) := by decide +kernel
theorem dX10_measureWays_31 : decode cX10_measureWays 31 = .ok (.iinc 3 1, 3) := by decide +kernel
theorem dX10_measureWays_34 : decode cX10_measureWays 34 = .ok (.goto (-32), 3) := by decide +kernel
theorem dX10_measureWays_37 : decode cX10_measureWays 37 = .ok (.aload_n 1, 1) := by decide +kernel
theorem dX10_measureWays_38 : decode cX10_measureWays 38 = .ok (.invokevirtual 36, 3) := by decide +kernel
theorem dX10_measureWays_41 : decode cX10_measureWays 41 = .ok (.istore_n 3, 1) := by decide +kernel
theorem dX10_measureWays_42 : decode cX10_measureWays 42 = .ok (.iconst 0, 1) := by decide +kernel
theorem dX10_measureWays_43 : decode cX10_measureWays 43 = .ok (.istore 4, 2) := by decide +kernel
theorem dX10_measureWays_45 : decode cX10_measureWays 45 = .ok (.iload 4, 2) := by decide +kernel
theorem dX10_measureWays_47 : decode cX10_measureWays 47 = .ok (.aload_n 1, 1) := by decide +kernel
theorem dX10_measureWays_48 : decode cX10_measureWays 48 = .ok (.getfield 18, 3) := by decide +kernel
theorem dX10_measureWays_51 : decode cX10_measureWays 51 = .ok (.iconst 1, 1) := by decide +kernel
theorem dX10_measureWays_52 : decode cX10_measureWays 52 = .ok (.iaload, 1) := by decide +kernel
theorem dX10_measureWays_53 : decode cX10_measureWays 53 = .ok (.if_icmp .ge 77, 3) := by decide +kernel
theorem dX10_measureWays_56 : decode cX10_measureWays 56 = .ok (.aload_n 1, 1) := by decide +kernel
theorem dX10_measureWays_57 : decode cX10_measureWays 57 = .ok (.iload 4, 2) := by decide +kernel
theorem dX10_measureWays_59 : decode cX10_measureWays 59 = .ok (.invokevirtual 40, 3) := by decide +kernel
theorem dX10_measureWays_62 : decode cX10_measureWays 62 = .ok (.ifCond .ne 62, 3) := by decide +kernel
theorem dX10_measureWays_65 : decode cX10_measureWays 65 = .ok (.iload_n 3, 1) := by decide +kernel
theorem dX10_measureWays_66 : decode cX10_measureWays 66 = .ok (.iload 4, 2) := by decide +kernel
theorem dX10_measureWays_68 : decode cX10_measureWays 68 = .ok (.ishr, 1) := by decide +kernel
theorem dX10_measureWays_69 : decode cX10_measureWays 69 = .ok (.iconst 1, 1) := by decide +kernel
theorem dX10_measureWays_70 : decode cX10_measureWays 70 = .ok (.iand, 1) := by decide +kernel
theorem dX10_measureWays_71 : decode cX10_measureWays 71 = .ok (.ifCond .ne 53, 3) := by decide +kernel
theorem dX10_measureWays_74 : decode cX10_measureWays 74 = .ok (.aload_n 0, 1) := by decide +kernel
theorem dX10_measureWays_75 : decode cX10_measureWays 75 = .ok (.aload_n 1, 1) := by decide +kernel
theorem dX10_measureWays_76 : decode cX10_measureWays 76 = .ok (.getfield 44, 3) := by decide +kernel
theorem dX10_measureWays_79 : decode cX10_measureWays 79 = .ok (.iload 4, 2) := by decide +kernel
theorem dX10_measureWays_81 : decode cX10_measureWays 81 = .ok (.iaload, 1) := by decide +kernel
theorem dX10_measureWays_82 : decode cX10_measureWays 82 = .ok (.aload_n 1, 1) := by decide +kernel
theorem dX10_measureWays_83 : decode cX10_measureWays 83 = .ok (.getfield 47, 3) := by decide +kernel
theorem dX10_measureWays_86 : decode cX10_measureWays 86 = .ok (.iload 4, 2) := by decide +kernel
theorem dX10_measureWays_88 : decode cX10_measureWays 88 = .ok (.iaload, 1) := by decide +kernel
theorem dX10_measureWays_89 : decode cX10_measureWays 89 = .ok (.aload_n 1, 1) := by decide +kernel
theorem dX10_measureWays_90 : decode cX10_measureWays 90 = .ok (.getfield 50, 3) := by decide +kernel
theorem dX10_measureWays_93 : decode cX10_measureWays 93 = .ok (.iload 4, 2) := by decide +kernel
theorem dX10_measureWays_95 : decode cX10_measureWays 95 = .ok (.iaload, 1) := by decide +kernel
theorem dX10_measureWays_96 : decode cX10_measureWays 96 = .ok (.invokevirtual 53, 3) := by decide +kernel
theorem dX10_measureWays_99 : decode cX10_measureWays 99 = .ok (.aload_n 0, 1) := by decide +kernel
theorem dX10_measureWays_100 : decode cX10_measureWays 100 = .ok (.aload_n 1, 1) := by decide +kernel
theorem dX10_measureWays_101 : decode cX10_measureWays 101 = .ok (.getfield 47, 3) := by decide +kernel
theorem dX10_measureWays_104 : decode cX10_measureWays 104 = .ok (.iload 4, 2) := by decide +kernel
theorem dX10_measureWays_106 : decode cX10_measureWays 106 = .ok (.iaload, 1) := by decide +kernel
theorem dX10_measureWays_107 : decode cX10_measureWays 107 = .ok (.aload_n 1, 1) := by decide +kernel
theorem dX10_measureWays_108 : decode cX10_measureWays 108 = .ok (.getfield 44, 3) := by decide +kernel
theorem dX10_measureWays_111 : decode cX10_measureWays 111 = .ok (.iload 4, 2) := by decide +kernel
theorem dX10_measureWays_113 : decode cX10_measureWays 113 = .ok (.iaload, 1) := by decide +kernel
theorem dX10_measureWays_114 : decode cX10_measureWays 114 = .ok (.aload_n 1, 1) := by decide +kernel
theorem dX10_measureWays_115 : decode cX10_measureWays 115 = .ok (.getfield 50, 3) := by decide +kernel
theorem dX10_measureWays_118 : decode cX10_measureWays 118 = .ok (.iload 4, 2) := by decide +kernel
theorem dX10_measureWays_120 : decode cX10_measureWays 120 = .ok (.iaload, 1) := by decide +kernel
theorem dX10_measureWays_121 : decode cX10_measureWays 121 = .ok (.invokevirtual 53, 3) := by decide +kernel
theorem dX10_measureWays_124 : decode cX10_measureWays 124 = .ok (.iinc 4 1, 3) := by decide +kernel
theorem dX10_measureWays_127 : decode cX10_measureWays 127 = .ok (.goto (-82), 3) := by decide +kernel
theorem dX10_measureWays_130 : decode cX10_measureWays 130 = .ok (.iconst 0, 1) := by decide +kernel
theorem dX10_measureWays_131 : decode cX10_measureWays 131 = .ok (.istore 4, 2) := by decide +kernel
theorem dX10_measureWays_133 : decode cX10_measureWays 133 = .ok (.iload 4, 2) := by decide +kernel
theorem dX10_measureWays_135 : decode cX10_measureWays 135 = .ok (.iload_n 2, 1) := by decide +kernel
theorem dX10_measureWays_136 : decode cX10_measureWays 136 = .ok (.if_icmp .ge 64, 3) := by decide +kernel
theorem dX10_measureWays_139 : decode cX10_measureWays 139 = .ok (.iconst 0, 1) := by decide +kernel
theorem dX10_measureWays_140 : decode cX10_measureWays 140 = .ok (.istore 5, 2) := by decide +kernel
theorem dX10_measureWays_142 : decode cX10_measureWays 142 = .ok (.iload 5, 2) := by decide +kernel
theorem dX10_measureWays_144 : decode cX10_measureWays 144 = .ok (.iload_n 2, 1) := by decide +kernel
theorem dX10_measureWays_145 : decode cX10_measureWays 145 = .ok (.if_icmp .ge 49, 3) := by decide +kernel
theorem dX10_measureWays_148 : decode cX10_measureWays 148 = .ok (.iconst 0, 1) := by decide +kernel
theorem dX10_measureWays_149 : decode cX10_measureWays 149 = .ok (.istore 6, 2) := by decide +kernel
theorem dX10_measureWays_151 : decode cX10_measureWays 151 = .ok (.iload 6, 2) := by decide +kernel
theorem dX10_measureWays_153 : decode cX10_measureWays 153 = .ok (.iload_n 2, 1) := by decide +kernel
theorem dX10_measureWays_154 : decode cX10_measureWays 154 = .ok (.if_icmp .ge 34, 3) := by decide +kernel
theorem dX10_measureWays_157 : decode cX10_measureWays 157 = .ok (.aload_n 0, 1) := by decide +kernel
theorem dX10_measureWays_158 : decode cX10_measureWays 158 = .ok (.iload 5, 2) := by decide +kernel
theorem dX10_measureWays_160 : decode cX10_measureWays 160 = .ok (.iload 6, 2) := by decide +kernel
theorem dX10_measureWays_162 : decode cX10_measureWays 162 = .ok (.aload_n 0, 1) := by decide +kernel
theorem dX10_measureWays_163 : decode cX10_measureWays 163 = .ok (.iload 5, 2) := by decide +kernel
theorem dX10_measureWays_165 : decode cX10_measureWays 165 = .ok (.iload 4, 2) := by decide +kernel
theorem dX10_measureWays_167 : decode cX10_measureWays 167 = .ok (.invokevirtual 57, 3) := by decide +kernel
theorem dX10_measureWays_170 : decode cX10_measureWays 170 = .ok (.aload_n 0, 1) := by decide +kernel
theorem dX10_measureWays_171 : decode cX10_measureWays 171 = .ok (.iload 4, 2) := by decide +kernel
theorem dX10_measureWays_173 : decode cX10_measureWays 173 = .ok (.iload 6, 2) := by decide +kernel
theorem dX10_measureWays_175 : decode cX10_measureWays 175 = .ok (.invokevirtual 57, 3) := by decide +kernel
theorem dX10_measureWays_178 : decode cX10_measureWays 178 = .ok (.iadd, 1) := by decide +kernel
theorem dX10_measureWays_179 : decode cX10_measureWays 179 = .ok (.invokevirtual 53, 3) := by decide +kernel
theorem dX10_measureWays_182 : decode cX10_measureWays 182 = .ok (.iinc 6 1, 3) := by decide +kernel
theorem dX10_measureWays_185 : decode cX10_measureWays 185 = .ok (.goto (-34), 3) := by decide +kernel
theorem dX10_measureWays_188 : decode cX10_measureWays 188 = .ok (.iinc 5 1, 3) := by decide +kernel
theorem dX10_measureWays_191 : decode cX10_measureWays 191 = .ok (.goto (-49), 3) := by decide +kernel
theorem dX10_measureWays_194 : decode cX10_measureWays 194 = .ok (.iinc 4 1, 3) := by decide +kernel
theorem dX10_measureWays_197 : decode cX10_measureWays 197 = .ok (.goto (-64), 3) := by decide +kernel
theorem dX10_measureWays_200 : decode cX10_measureWays 200 = .ok (.return_, 1) := by decide +kernel
theorem dX10_wayOf_0 : decode cX10_wayOf 0 = .ok (.iload_n 1, 1) := by decide +kernel
theorem dX10_wayOf_1 : decode cX10_wayOf 1 = .ok (.ifCond .lt 19, 3) := by decide +kernel
theorem dX10_wayOf_4 : decode cX10_wayOf 4 = .ok (.iload_n 1, 1) := by decide +kernel
theorem dX10_wayOf_5 : decode cX10_wayOf 5 = .ok (.bipush 8, 2) := by decide +kernel
theorem dX10_wayOf_7 : decode cX10_wayOf 7 = .ok (.if_icmp .ge 13, 3) := by decide +kernel
theorem dX10_wayOf_10 : decode cX10_wayOf 10 = .ok (.iload_n 2, 1) := by decide +kernel
theorem dX10_wayOf_11 : decode cX10_wayOf 11 = .ok (.ifCond .lt 9, 3) := by decide +kernel
theorem dX10_wayOf_14 : decode cX10_wayOf 14 = .ok (.iload_n 2, 1) := by decide +kernel
theorem dX10_wayOf_15 : decode cX10_wayOf 15 = .ok (.bipush 8, 2) := by decide +kernel
theorem dX10_wayOf_17 : decode cX10_wayOf 17 = .ok (.if_icmp .lt 6, 3) := by decide +kernel
theorem dX10_wayOf_20 : decode cX10_wayOf 20 = .ok (.ldc 35, 2) := by decide +kernel
theorem dX10_wayOf_22 : decode cX10_wayOf 22 = .ok (.ireturn, 1) := by decide +kernel
theorem dX10_wayOf_23 : decode cX10_wayOf 23 = .ok (.aload_n 0, 1) := by decide +kernel
theorem dX10_wayOf_24 : decode cX10_wayOf 24 = .ok (.getfield 9, 3) := by decide +kernel
theorem dX10_wayOf_27 : decode cX10_wayOf 27 = .ok (.iload_n 1, 1) := by decide +kernel
theorem dX10_wayOf_28 : decode cX10_wayOf 28 = .ok (.bipush 8, 2) := by decide +kernel
theorem dX10_wayOf_30 : decode cX10_wayOf 30 = .ok (.imul, 1) := by decide +kernel
theorem dX10_wayOf_31 : decode cX10_wayOf 31 = .ok (.iload_n 2, 1) := by decide +kernel
theorem dX10_wayOf_32 : decode cX10_wayOf 32 = .ok (.iadd, 1) := by decide +kernel
theorem dX10_wayOf_33 : decode cX10_wayOf 33 = .ok (.iaload, 1) := by decide +kernel
theorem dX10_wayOf_34 : decode cX10_wayOf 34 = .ok (.ireturn, 1) := by decide +kernel
theorem dX10_shorten_0 : decode cX10_shorten 0 = .ok (.iload_n 1, 1) := by decide +kernel
theorem dX10_shorten_1 : decode cX10_shorten 1 = .ok (.ifCond .lt 45, 3) := by decide +kernel
theorem dX10_shorten_4 : decode cX10_shorten 4 = .ok (.iload_n 1, 1) := by decide +kernel
theorem dX10_shorten_5 : decode cX10_shorten 5 = .ok (.bipush 8, 2) := by decide +kernel
theorem dX10_shorten_7 : decode cX10_shorten 7 = .ok (.if_icmp .ge 39, 3) := by decide +kernel
theorem dX10_shorten_10 : decode cX10_shorten 10 = .ok (.iload_n 2, 1) := by decide +kernel
theorem dX10_shorten_11 : decode cX10_shorten 11 = .ok (.ifCond .lt 35, 3) := by decide +kernel
theorem dX10_shorten_14 : decode cX10_shorten 14 = .ok (.iload_n 2, 1) := by decide +kernel
theorem dX10_shorten_15 : decode cX10_shorten 15 = .ok (.bipush 8, 2) := by decide +kernel
theorem dX10_shorten_17 : decode cX10_shorten 17 = .ok (.if_icmp .ge 29, 3) := by decide +kernel
theorem dX10_shorten_20 : decode cX10_shorten 20 = .ok (.aload_n 0, 1) := by decide +kernel
theorem dX10_shorten_21 : decode cX10_shorten 21 = .ok (.getfield 9, 3) := by decide +kernel
theorem dX10_shorten_24 : decode cX10_shorten 24 = .ok (.iload_n 1, 1) := by decide +kernel
theorem dX10_shorten_25 : decode cX10_shorten 25 = .ok (.bipush 8, 2) := by decide +kernel
theorem dX10_shorten_27 : decode cX10_shorten 27 = .ok (.imul, 1) := by decide +kernel
theorem dX10_shorten_28 : decode cX10_shorten 28 = .ok (.iload_n 2, 1) := by decide +kernel
theorem dX10_shorten_29 : decode cX10_shorten 29 = .ok (.iadd, 1) := by decide +kernel
theorem dX10_shorten_30 : decode cX10_shorten 30 = .ok (.aload_n 0, 1) := by decide +kernel
theorem dX10_shorten_31 : decode cX10_shorten 31 = .ok (.getfield 9, 3) := by decide +kernel
theorem dX10_shorten_34 : decode cX10_shorten 34 = .ok (.iload_n 1, 1) := by decide +kernel
theorem dX10_shorten_35 : decode cX10_shorten 35 = .ok (.bipush 8, 2) := by decide +kernel
theorem dX10_shorten_37 : decode cX10_shorten 37 = .ok (.imul, 1) := by decide +kernel
theorem dX10_shorten_38 : decode cX10_shorten 38 = .ok (.iload_n 2, 1) := by decide +kernel
theorem dX10_shorten_39 : decode cX10_shorten 39 = .ok (.iadd, 1) := by decide +kernel
theorem dX10_shorten_40 : decode cX10_shorten 40 = .ok (.iaload, 1) := by decide +kernel
theorem dX10_shorten_41 : decode cX10_shorten 41 = .ok (.iload_n 3, 1) := by decide +kernel
theorem dX10_shorten_42 : decode cX10_shorten 42 = .ok (.invokestatic 60, 3) := by decide +kernel
theorem dX10_shorten_45 : decode cX10_shorten 45 = .ok (.iastore, 1) := by decide +kernel
theorem dX10_shorten_46 : decode cX10_shorten 46 = .ok (.return_, 1) := by decide +kernel
theorem dX10_walk_0 : decode cX10_walk 0 = .ok (.iconst 0, 1) := by decide +kernel
theorem dX10_walk_1 : decode cX10_walk 1 = .ok (.istore_n 3, 1) := by decide +kernel
theorem dX10_walk_2 : decode cX10_walk 2 = .ok (.iload_n 3, 1) := by decide +kernel
theorem dX10_walk_3 : decode cX10_walk 3 = .ok (.sipush 2048, 3) := by decide +kernel
theorem dX10_walk_6 : decode cX10_walk 6 = .ok (.if_icmp .ge 27, 3) := by decide +kernel
theorem dX10_walk_9 : decode cX10_walk 9 = .ok (.iload_n 3, 1) := by decide +kernel
theorem dX10_walk_10 : decode cX10_walk 10 = .ok (.iload_n 1, 1) := by decide +kernel
theorem dX10_walk_11 : decode cX10_walk 11 = .ok (.iconst 1, 1) := by decide +kernel
theorem dX10_walk_12 : decode cX10_walk 12 = .ok (.iadd, 1) := by decide +kernel
theorem dX10_walk_13 : decode cX10_walk 13 = .ok (.bipush 8, 2) := by decide +kernel
theorem dX10_walk_15 : decode cX10_walk 15 = .ok (.imul, 1) := by decide +kernel
theorem dX10_walk_16 : decode cX10_walk 16 = .ok (.if_icmp .ge 17, 3) := by decide +kernel
theorem dX10_walk_19 : decode cX10_walk 19 = .ok (.aload_n 0, 1) := by decide +kernel
theorem dX10_walk_20 : decode cX10_walk 20 = .ok (.getfield 15, 3) := by decide +kernel
theorem dX10_walk_23 : decode cX10_walk 23 = .ok (.iload_n 3, 1) := by decide +kernel
theorem dX10_walk_24 : decode cX10_walk 24 = .ok (.ldc 35, 2) := by decide +kernel
theorem dX10_walk_26 : decode cX10_walk 26 = .ok (.iastore, 1) := by decide +kernel
theorem dX10_walk_27 : decode cX10_walk 27 = .ok (.iinc 3 1, 3) := by decide +kernel
theorem dX10_walk_30 : decode cX10_walk 30 = .ok (.goto (-28), 3) := by decide +kernel
theorem dX10_walk_33 : decode cX10_walk 33 = .ok (.iconst 1, 1) := by decide +kernel
theorem dX10_walk_34 : decode cX10_walk 34 = .ok (.iload_n 2, 1) := by decide +kernel
theorem dX10_walk_35 : decode cX10_walk 35 = .ok (.ishl, 1) := by decide +kernel
theorem dX10_walk_36 : decode cX10_walk 36 = .ok (.bipush 8, 2) := by decide +kernel
theorem dX10_walk_38 : decode cX10_walk 38 = .ok (.imul, 1) := by decide +kernel
theorem dX10_walk_39 : decode cX10_walk 39 = .ok (.iload_n 2, 1) := by decide +kernel
theorem dX10_walk_40 : decode cX10_walk 40 = .ok (.iadd, 1) := by decide +kernel
theorem dX10_walk_41 : decode cX10_walk 41 = .ok (.istore_n 3, 1) := by decide +kernel
theorem dX10_walk_42 : decode cX10_walk 42 = .ok (.iload_n 3, 1) := by decide +kernel
theorem dX10_walk_43 : decode cX10_walk 43 = .ok (.ifCond .lt 10, 3) := by decide +kernel
theorem dX10_walk_46 : decode cX10_walk 46 = .ok (.iload_n 3, 1) := by decide +kernel
theorem dX10_walk_47 : decode cX10_walk 47 = .ok (.sipush 2048, 3) := by decide +kernel
theorem dX10_walk_50 : decode cX10_walk 50 = .ok (.if_icmp .lt 6, 3) := by decide +kernel
theorem dX10_walk_53 : decode cX10_walk 53 = .ok (.ldc 35, 2) := by decide +kernel
theorem dX10_walk_55 : decode cX10_walk 55 = .ok (.ireturn, 1) := by decide +kernel
theorem dX10_walk_56 : decode cX10_walk 56 = .ok (.aload_n 0, 1) := by decide +kernel
theorem dX10_walk_57 : decode cX10_walk 57 = .ok (.getfield 15, 3) := by decide +kernel
theorem dX10_walk_60 : decode cX10_walk 60 = .ok (.iload_n 3, 1) := by decide +kernel
theorem dX10_walk_61 : decode cX10_walk 61 = .ok (.iconst 0, 1) := by decide +kernel
theorem dX10_walk_62 : decode cX10_walk 62 = .ok (.iastore, 1) := by decide +kernel
theorem dX10_walk_63 : decode cX10_walk 63 = .ok (.ldc 35, 2) := by decide +kernel
theorem dX10_walk_65 : decode cX10_walk 65 = .ok (.istore 4, 2) := by decide +kernel
theorem dX10_walk_67 : decode cX10_walk 67 = .ok (.iconst 0, 1) := by decide +kernel
theorem dX10_walk_68 : decode cX10_walk 68 = .ok (.istore 5, 2) := by decide +kernel
theorem dX10_walk_70 : decode cX10_walk 70 = .ok (.iload 5, 2) := by decide +kernel
theorem dX10_walk_72 : decode cX10_walk 72 = .ok (.sipush 256, 3) := by decide +kernel
theorem dX10_walk_75 : decode cX10_walk 75 = .ok (.if_icmp .ge 95, 3) := by decide +kernel
theorem dX10_walk_78 : decode cX10_walk 78 = .ok (.iload 5, 2) := by decide +kernel
theorem dX10_walk_80 : decode cX10_walk 80 = .ok (.iload_n 1, 1) := by decide +kernel
theorem dX10_walk_81 : decode cX10_walk 81 = .ok (.if_icmp .gt 89, 3) := by decide +kernel
theorem dX10_walk_84 : decode cX10_walk 84 = .ok (.iconst 0, 1) := by decide +kernel
theorem dX10_walk_85 : decode cX10_walk 85 = .ok (.istore 6, 2) := by decide +kernel
theorem dX10_walk_87 : decode cX10_walk 87 = .ok (.iload 6, 2) := by decide +kernel
theorem dX10_walk_89 : decode cX10_walk 89 = .ok (.bipush 8, 2) := by decide +kernel
theorem dX10_walk_91 : decode cX10_walk 91 = .ok (.if_icmp .ge 73, 3) := by decide +kernel
theorem dX10_walk_94 : decode cX10_walk 94 = .ok (.aload_n 0, 1) := by decide +kernel
theorem dX10_walk_95 : decode cX10_walk 95 = .ok (.getfield 15, 3) := by decide +kernel
theorem dX10_walk_98 : decode cX10_walk 98 = .ok (.iload 5, 2) := by decide +kernel
theorem dX10_walk_100 : decode cX10_walk 100 = .ok (.bipush 8, 2) := by decide +kernel
theorem dX10_walk_102 : decode cX10_walk 102 = .ok (.imul, 1) := by decide +kernel
theorem dX10_walk_103 : decode cX10_walk 103 = .ok (.iload 6, 2) := by decide +kernel
theorem dX10_walk_105 : decode cX10_walk 105 = .ok (.iadd, 1) := by decide +kernel
theorem dX10_walk_106 : decode cX10_walk 106 = .ok (.iaload, 1) := by decide +kernel
theorem dX10_walk_107 : decode cX10_walk 107 = .ok (.istore 7, 2) := by decide +kernel
theorem dX10_walk_109 : decode cX10_walk 109 = .ok (.iload 7, 2) := by decide +kernel
theorem dX10_walk_111 : decode cX10_walk 111 = .ok (.ldc 35, 2) := by decide +kernel
theorem dX10_walk_113 : decode cX10_walk 113 = .ok (.if_icmp .lt 6, 3) := by decide +kernel
theorem dX10_walk_116 : decode cX10_walk 116 = .ok (.goto 42, 3) := by decide +kernel
theorem dX10_walk_119 : decode cX10_walk 119 = .ok (.iload 5, 2) := by decide +kernel
theorem dX10_walk_121 : decode cX10_walk 121 = .ok (.iload_n 1, 1) := by decide +kernel
theorem dX10_walk_122 : decode cX10_walk 122 = .ok (.if_icmp .ne 20, 3) := by decide +kernel
theorem dX10_walk_125 : decode cX10_walk 125 = .ok (.iload 4, 2) := by decide +kernel
theorem dX10_walk_127 : decode cX10_walk 127 = .ok (.iload 7, 2) := by decide +kernel
theorem dX10_walk_129 : decode cX10_walk 129 = .ok (.aload_n 0, 1) := by decide +kernel
theorem dX10_walk_130 : decode cX10_walk 130 = .ok (.iload 6, 2) := by decide +kernel
theorem dX10_walk_132 : decode cX10_walk 132 = .ok (.iload_n 2, 1) := by decide +kernel
theorem dX10_walk_133 : decode cX10_walk 133 = .ok (.invokevirtual 57, 3) := by decide +kernel
theorem dX10_walk_136 : decode cX10_walk 136 = .ok (.iadd, 1) := by decide +kernel
theorem dX10_walk_137 : decode cX10_walk 137 = .ok (.invokestatic 60, 3) := by decide +kernel
theorem dX10_walk_140 : decode cX10_walk 140 = .ok (.istore 4, 2) := by decide +kernel
theorem dX10_walk_142 : decode cX10_walk 142 = .ok (.aload_n 0, 1) := by decide +kernel
theorem dX10_walk_143 : decode cX10_walk 143 = .ok (.iload_n 1, 1) := by decide +kernel
theorem dX10_walk_144 : decode cX10_walk 144 = .ok (.iload 5, 2) := by decide +kernel
theorem dX10_walk_146 : decode cX10_walk 146 = .ok (.iconst (-1), 1) := by decide +kernel
theorem dX10_walk_147 : decode cX10_walk 147 = .ok (.ixor, 1) := by decide +kernel
theorem dX10_walk_148 : decode cX10_walk 148 = .ok (.iand, 1) := by decide +kernel
theorem dX10_walk_149 : decode cX10_walk 149 = .ok (.iload 5, 2) := by decide +kernel
theorem dX10_walk_151 : decode cX10_walk 151 = .ok (.iload 6, 2) := by decide +kernel
theorem dX10_walk_153 : decode cX10_walk 153 = .ok (.iload 7, 2) := by decide +kernel
theorem dX10_walk_155 : decode cX10_walk 155 = .ok (.invokevirtual 65, 3) := by decide +kernel
theorem dX10_walk_158 : decode cX10_walk 158 = .ok (.iinc 6 1, 3) := by decide +kernel
theorem dX10_walk_161 : decode cX10_walk 161 = .ok (.goto (-74), 3) := by decide +kernel
theorem dX10_walk_164 : decode cX10_walk 164 = .ok (.iinc 5 1, 3) := by decide +kernel
theorem dX10_walk_167 : decode cX10_walk 167 = .ok (.goto (-97), 3) := by decide +kernel
theorem dX10_walk_170 : decode cX10_walk 170 = .ok (.iload 4, 2) := by decide +kernel
theorem dX10_walk_172 : decode cX10_walk 172 = .ok (.ireturn, 1) := by decide +kernel
theorem dX10_walkOn_0 : decode cX10_walkOn 0 = .ok (.iconst 0, 1) := by decide +kernel
theorem dX10_walkOn_1 : decode cX10_walkOn 1 = .ok (.istore 5, 2) := by decide +kernel
theorem dX10_walkOn_3 : decode cX10_walkOn 3 = .ok (.iload 5, 2) := by decide +kernel
theorem dX10_walkOn_5 : decode cX10_walkOn 5 = .ok (.bipush 8, 2) := by decide +kernel
theorem dX10_walkOn_7 : decode cX10_walkOn 7 = .ok (.if_icmp .ge 72, 3) := by decide +kernel
theorem dX10_walkOn_10 : decode cX10_walkOn 10 = .ok (.iload_n 1, 1) := by decide +kernel
theorem dX10_walkOn_11 : decode cX10_walkOn 11 = .ok (.iload 5, 2) := by decide +kernel
theorem dX10_walkOn_13 : decode cX10_walkOn 13 = .ok (.ishr, 1) := by decide +kernel
theorem dX10_walkOn_14 : decode cX10_walkOn 14 = .ok (.iconst 1, 1) := by decide +kernel
theorem dX10_walkOn_15 : decode cX10_walkOn 15 = .ok (.iand, 1) := by decide +kernel
theorem dX10_walkOn_16 : decode cX10_walkOn 16 = .ok (.ifCond .eq 57, 3) := by decide +kernel
theorem dX10_walkOn_19 : decode cX10_walkOn 19 = .ok (.iload_n 2, 1) := by decide +kernel
theorem dX10_walkOn_20 : decode cX10_walkOn 20 = .ok (.iconst 1, 1) := by decide +kernel
theorem dX10_walkOn_21 : decode cX10_walkOn 21 = .ok (.iload 5, 2) := by decide +kernel
theorem dX10_walkOn_23 : decode cX10_walkOn 23 = .ok (.ishl, 1) := by decide +kernel
theorem dX10_walkOn_24 : decode cX10_walkOn 24 = .ok (.ior, 1) := by decide +kernel
theorem dX10_walkOn_25 : decode cX10_walkOn 25 = .ok (.bipush 8, 2) := by decide +kernel
theorem dX10_walkOn_27 : decode cX10_walkOn 27 = .ok (.imul, 1) := by decide +kernel
theorem dX10_walkOn_28 : decode cX10_walkOn 28 = .ok (.iload 5, 2) := by decide +kernel
theorem dX10_walkOn_30 : decode cX10_walkOn 30 = .ok (.iadd, 1) := by decide +kernel
theorem dX10_walkOn_31 : decode cX10_walkOn 31 = .ok (.istore 6, 2) := by decide +kernel
theorem dX10_walkOn_33 : decode cX10_walkOn 33 = .ok (.iload 6, 2) := by decide +kernel
theorem dX10_walkOn_35 : decode cX10_walkOn 35 = .ok (.ifCond .lt 38, 3) := by decide +kernel
theorem dX10_walkOn_38 : decode cX10_walkOn 38 = .ok (.iload 6, 2) := by decide +kernel
theorem dX10_walkOn_40 : decode cX10_walkOn 40 = .ok (.sipush 2048, 3) := by decide +kernel
theorem dX10_walkOn_43 : decode cX10_walkOn 43 = .ok (.if_icmp .ge 30, 3) := by decide +kernel
theorem dX10_walkOn_46 : decode cX10_walkOn 46 = .ok (.aload_n 0, 1) := by decide +kernel
theorem dX10_walkOn_47 : decode cX10_walkOn 47 = .ok (.getfield 15, 3) := by decide +kernel
theorem dX10_walkOn_50 : decode cX10_walkOn 50 = .ok (.iload 6, 2) := by decide +kernel
theorem dX10_walkOn_52 : decode cX10_walkOn 52 = .ok (.aload_n 0, 1) := by decide +kernel
theorem dX10_walkOn_53 : decode cX10_walkOn 53 = .ok (.getfield 15, 3) := by decide +kernel
theorem dX10_walkOn_56 : decode cX10_walkOn 56 = .ok (.iload 6, 2) := by decide +kernel
theorem dX10_walkOn_58 : decode cX10_walkOn 58 = .ok (.iaload, 1) := by decide +kernel
theorem dX10_walkOn_59 : decode cX10_walkOn 59 = .ok (.iload 4, 2) := by decide +kernel
theorem dX10_walkOn_61 : decode cX10_walkOn 61 = .ok (.aload_n 0, 1) := by decide +kernel
theorem dX10_walkOn_62 : decode cX10_walkOn 62 = .ok (.iload_n 3, 1) := by decide +kernel
theorem dX10_walkOn_63 : decode cX10_walkOn 63 = .ok (.iload 5, 2) := by decide +kernel
theorem dX10_walkOn_65 : decode cX10_walkOn 65 = .ok (.invokevirtual 57, 3) := by decide +kernel
theorem dX10_walkOn_68 : decode cX10_walkOn 68 = .ok (.iadd, 1) := by decide +kernel
theorem dX10_walkOn_69 : decode cX10_walkOn 69 = .ok (.invokestatic 60, 3) := by decide +kernel
theorem dX10_walkOn_72 : decode cX10_walkOn 72 = .ok (.iastore, 1) := by decide +kernel
theorem dX10_walkOn_73 : decode cX10_walkOn 73 = .ok (.iinc 5 1, 3) := by decide +kernel
theorem dX10_walkOn_76 : decode cX10_walkOn 76 = .ok (.goto (-73), 3) := by decide +kernel
theorem dX10_walkOn_79 : decode cX10_walkOn 79 = .ok (.return_, 1) := by decide +kernel
theorem dX11_feed_0 : decode cX11_feed 0 = .ok (.aload_n 0, 1) := by decide +kernel
theorem dX11_feed_1 : decode cX11_feed 1 = .ok (.getfield 10, 3) := by decide +kernel
theorem dX11_feed_4 : decode cX11_feed 4 = .ok (.invokevirtual 81, 3) := by decide +kernel
theorem dX11_feed_7 : decode cX11_feed 7 = .ok (.ifCond .ne 9, 3) := by decide +kernel
theorem dX11_feed_10 : decode cX11_feed 10 = .ok (.aload_n 0, 1) := by decide +kernel
theorem dX11_feed_11 : decode cX11_feed 11 = .ok (.iconst 0, 1) := by decide +kernel
theorem dX11_feed_12 : decode cX11_feed 12 = .ok (.invokevirtual 85, 3) := by decide +kernel
theorem dX11_feed_15 : decode cX11_feed 15 = .ok (.ireturn, 1) := by decide +kernel
theorem dX11_feed_16 : decode cX11_feed 16 = .ok (.aload_n 0, 1) := by decide +kernel
theorem dX11_feed_17 : decode cX11_feed 17 = .ok (.getfield 10, 3) := by decide +kernel
theorem dX11_feed_20 : decode cX11_feed 20 = .ok (.iload_n 1, 1) := by decide +kernel
theorem dX11_feed_21 : decode cX11_feed 21 = .ok (.invokevirtual 89, 3) := by decide +kernel
theorem dX11_feed_24 : decode cX11_feed 24 = .ok (.aload_n 0, 1) := by decide +kernel
theorem dX11_feed_25 : decode cX11_feed 25 = .ok (.getfield 10, 3) := by decide +kernel
theorem dX11_feed_28 : decode cX11_feed 28 = .ok (.iload_n 2, 1) := by decide +kernel
theorem dX11_feed_29 : decode cX11_feed 29 = .ok (.invokevirtual 89, 3) := by decide +kernel
theorem dX11_feed_32 : decode cX11_feed 32 = .ok (.aload_n 0, 1) := by decide +kernel
theorem dX11_feed_33 : decode cX11_feed 33 = .ok (.getfield 10, 3) := by decide +kernel
theorem dX11_feed_36 : decode cX11_feed 36 = .ok (.iload_n 3, 1) := by decide +kernel
theorem dX11_feed_37 : decode cX11_feed 37 = .ok (.invokevirtual 89, 3) := by decide +kernel
theorem dX11_feed_40 : decode cX11_feed 40 = .ok (.aload_n 0, 1) := by decide +kernel
theorem dX11_feed_41 : decode cX11_feed 41 = .ok (.getfield 10, 3) := by decide +kernel
theorem dX11_feed_44 : decode cX11_feed 44 = .ok (.iload 4, 2) := by decide +kernel
theorem dX11_feed_46 : decode cX11_feed 46 = .ok (.invokevirtual 89, 3) := by decide +kernel
theorem dX11_feed_49 : decode cX11_feed 49 = .ok (.aload_n 0, 1) := by decide +kernel
theorem dX11_feed_50 : decode cX11_feed 50 = .ok (.getfield 10, 3) := by decide +kernel
theorem dX11_feed_53 : decode cX11_feed 53 = .ok (.iload 5, 2) := by decide +kernel
theorem dX11_feed_55 : decode cX11_feed 55 = .ok (.invokevirtual 89, 3) := by decide +kernel
theorem dX11_feed_58 : decode cX11_feed 58 = .ok (.aload_n 0, 1) := by decide +kernel
theorem dX11_feed_59 : decode cX11_feed 59 = .ok (.getfield 10, 3) := by decide +kernel
theorem dX11_feed_62 : decode cX11_feed 62 = .ok (.getfield 93, 3) := by decide +kernel
theorem dX11_feed_65 : decode cX11_feed 65 = .ok (.ireturn, 1) := by decide +kernel
theorem dX11_end_0 : decode cX11_end 0 = .ok (.iload_n 1, 1) := by decide +kernel
theorem dX11_end_1 : decode cX11_end 1 = .ok (.ifCond .lt 14, 3) := by decide +kernel
theorem dX11_end_4 : decode cX11_end 4 = .ok (.iload_n 1, 1) := by decide +kernel
theorem dX11_end_5 : decode cX11_end 5 = .ok (.aload_n 0, 1) := by decide +kernel
theorem dX11_end_6 : decode cX11_end 6 = .ok (.getfield 10, 3) := by decide +kernel
theorem dX11_end_9 : decode cX11_end 9 = .ok (.getfield 93, 3) := by decide +kernel
theorem dX11_end_12 : decode cX11_end 12 = .ok (.if_icmp .le 11, 3) := by decide +kernel
theorem dX11_end_15 : decode cX11_end 15 = .ok (.aload_n 0, 1) := by decide +kernel
theorem dX11_end_16 : decode cX11_end 16 = .ok (.iconst 0, 1) := by decide +kernel
theorem dX11_end_17 : decode cX11_end 17 = .ok (.invokevirtual 85, 3) := by decide +kernel
theorem dX11_end_20 : decode cX11_end 20 = .ok (.pop, 1) := by decide +kernel
theorem dX11_end_21 : decode cX11_end 21 = .ok (.iconst 0, 1) := by decide +kernel
theorem dX11_end_22 : decode cX11_end 22 = .ok (.ireturn, 1) := by decide +kernel
theorem dX11_end_23 : decode cX11_end 23 = .ok (.aload_n 0, 1) := by decide +kernel
theorem dX11_end_24 : decode cX11_end 24 = .ok (.getfield 10, 3) := by decide +kernel
theorem dX11_end_27 : decode cX11_end 27 = .ok (.iload_n 1, 1) := by decide +kernel
theorem dX11_end_28 : decode cX11_end 28 = .ok (.putfield 93, 3) := by decide +kernel
theorem dX11_end_31 : decode cX11_end 31 = .ok (.iconst 1, 1) := by decide +kernel
theorem dX11_end_32 : decode cX11_end 32 = .ok (.ireturn, 1) := by decide +kernel
theorem dX11_town_0 : decode cX11_town 0 = .ok (.aload_n 0, 1) := by decide +kernel
theorem dX11_town_1 : decode cX11_town 1 = .ok (.getfield 21, 3) := by decide +kernel
theorem dX11_town_4 : decode cX11_town 4 = .ok (.aload_n 0, 1) := by decide +kernel
theorem dX11_town_5 : decode cX11_town 5 = .ok (.getfield 78, 3) := by decide +kernel
theorem dX11_town_8 : decode cX11_town 8 = .ok (.invokevirtual 97, 3) := by decide +kernel
theorem dX11_town_11 : decode cX11_town 11 = .ok (.istore_n 1, 1) := by decide +kernel
theorem dX11_town_12 : decode cX11_town 12 = .ok (.aload_n 0, 1) := by decide +kernel
theorem dX11_town_13 : decode cX11_town 13 = .ok (.getfield 10, 3) := by decide +kernel
theorem dX11_town_16 : decode cX11_town 16 = .ok (.iconst 0, 1) := by decide +kernel
theorem dX11_town_17 : decode cX11_town 17 = .ok (.putfield 93, 3) := by decide +kernel
theorem dX11_town_20 : decode cX11_town 20 = .ok (.iload_n 1, 1) := by decide +kernel
theorem dX11_town_21 : decode cX11_town 21 = .ok (.iconst (-1), 1) := by decide +kernel
theorem dX11_town_22 : decode cX11_town 22 = .ok (.if_icmp .ne 9, 3) := by decide +kernel
theorem dX11_town_25 : decode cX11_town 25 = .ok (.aload_n 0, 1) := by decide +kernel
theorem dX11_town_26 : decode cX11_town 26 = .ok (.iconst 1, 1) := by decide +kernel
theorem dX11_town_27 : decode cX11_town 27 = .ok (.invokevirtual 85, 3) := by decide +kernel
theorem dX11_town_30 : decode cX11_town 30 = .ok (.ireturn, 1) := by decide +kernel
theorem dX11_town_31 : decode cX11_town 31 = .ok (.aload_n 0, 1) := by decide +kernel
theorem dX11_town_32 : decode cX11_town 32 = .ok (.getfield 74, 3) := by decide +kernel
theorem dX11_town_35 : decode cX11_town 35 = .ok (.astore_n 2, 1) := by decide +kernel
theorem dX11_town_36 : decode cX11_town 36 = .ok (.aload_n 0, 1) := by decide +kernel
theorem dX11_town_37 : decode cX11_town 37 = .ok (.aload_n 0, 1) := by decide +kernel
theorem dX11_town_38 : decode cX11_town 38 = .ok (.getfield 78, 3) := by decide +kernel
theorem dX11_town_41 : decode cX11_town 41 = .ok (.putfield 74, 3) := by decide +kernel
theorem dX11_town_44 : decode cX11_town 44 = .ok (.aload_n 0, 1) := by decide +kernel
theorem dX11_town_45 : decode cX11_town 45 = .ok (.aload_n 2, 1) := by decide +kernel
theorem dX11_town_46 : decode cX11_town 46 = .ok (.putfield 78, 3) := by decide +kernel
theorem dX11_town_49 : decode cX11_town 49 = .ok (.aload_n 0, 1) := by decide +kernel
theorem dX11_town_50 : decode cX11_town 50 = .ok (.getfield 42, 3) := by decide +kernel
theorem dX11_town_53 : decode cX11_town 53 = .ok (.iconst 0, 1) := by decide +kernel
theorem dX11_town_54 : decode cX11_town 54 = .ok (.putfield 101, 3) := by decide +kernel
theorem dX11_town_57 : decode cX11_town 57 = .ok (.iload_n 1, 1) := by decide +kernel
theorem dX11_town_58 : decode cX11_town 58 = .ok (.ireturn, 1) := by decide +kernel
theorem dX11_fault_0 : decode cX11_fault 0 = .ok (.iload_n 1, 1) := by decide +kernel
theorem dX11_fault_1 : decode cX11_fault 1 = .ok (.ifCond .ne 11, 3) := by decide +kernel
theorem dX11_fault_4 : decode cX11_fault 4 = .ok (.aload_n 0, 1) := by decide +kernel
theorem dX11_fault_5 : decode cX11_fault 5 = .ok (.getfield 21, 3) := by decide +kernel
theorem dX11_fault_8 : decode cX11_fault 8 = .ok (.getfield 104, 3) := by decide +kernel
theorem dX11_fault_11 : decode cX11_fault 11 = .ok (.ireturn, 1) := by decide +kernel
theorem dX11_fault_12 : decode cX11_fault 12 = .ok (.iload_n 1, 1) := by decide +kernel
theorem dX11_fault_13 : decode cX11_fault 13 = .ok (.iconst 1, 1) := by decide +kernel
theorem dX11_fault_14 : decode cX11_fault 14 = .ok (.if_icmp .ne 13, 3) := by decide +kernel
theorem dX11_fault_17 : decode cX11_fault 17 = .ok (.aload_n 0, 1) := by decide +kernel
theorem dX11_fault_18 : decode cX11_fault 18 = .ok (.getfield 21, 3) := by decide +kernel
theorem dX11_fault_21 : decode cX11_fault 21 = .ok (.getfield 107, 3) := by decide +kernel
theorem dX11_fault_24 : decode cX11_fault 24 = .ok (.goto 4, 3) := by decide +kernel
theorem dX11_fault_27 : decode cX11_fault 27 = .ok (.iconst (-1), 1) := by decide +kernel
theorem dX11_fault_28 : decode cX11_fault 28 = .ok (.ireturn, 1) := by decide +kernel
theorem dX11_has_0 : decode cX11_has 0 = .ok (.iload_n 1, 1) := by decide +kernel
theorem dX11_has_1 : decode cX11_has 1 = .ok (.bipush 8, 2) := by decide +kernel
theorem dX11_has_3 : decode cX11_has 3 = .ok (.if_icmp .ne 14, 3) := by decide +kernel
theorem dX11_has_6 : decode cX11_has 6 = .ok (.aload_n 0, 1) := by decide +kernel
theorem dX11_has_7 : decode cX11_has 7 = .ok (.getfield 74, 3) := by decide +kernel
theorem dX11_has_10 : decode cX11_has 10 = .ok (.invokevirtual 110, 3) := by decide +kernel
theorem dX11_has_13 : decode cX11_has 13 = .ok (.invokestatic 114, 3) := by decide +kernel
theorem dX11_has_16 : decode cX11_has 16 = .ok (.ireturn, 1) := by decide +kernel
theorem dX11_has_17 : decode cX11_has 17 = .ok (.iload_n 1, 1) := by decide +kernel
theorem dX11_has_18 : decode cX11_has 18 = .ok (.bipush 9, 2) := by decide +kernel
theorem dX11_has_20 : decode cX11_has 20 = .ok (.if_icmp .ne 14, 3) := by decide +kernel
theorem dX11_has_23 : decode cX11_has 23 = .ok (.aload_n 0, 1) := by decide +kernel
theorem dX11_has_24 : decode cX11_has 24 = .ok (.getfield 74, 3) := by decide +kernel
theorem dX11_has_27 : decode cX11_has 27 = .ok (.invokevirtual 119, 3) := by decide +kernel
theorem dX11_has_30 : decode cX11_has 30 = .ok (.invokestatic 114, 3) := by decide +kernel
theorem dX11_has_33 : decode cX11_has 33 = .ok (.ireturn, 1) := by decide +kernel
theorem dX11_has_34 : decode cX11_has 34 = .ok (.iload_n 1, 1) := by decide +kernel
theorem dX11_has_35 : decode cX11_has 35 = .ok (.ifCond .lt 21, 3) := by decide +kernel
theorem dX11_has_38 : decode cX11_has 38 = .ok (.iload_n 1, 1) := by decide +kernel
theorem dX11_has_39 : decode cX11_has 39 = .ok (.bipush 8, 2) := by decide +kernel
theorem dX11_has_41 : decode cX11_has 41 = .ok (.if_icmp .ge 15, 3) := by decide +kernel
theorem dX11_has_44 : decode cX11_has 44 = .ok (.aload_n 0, 1) := by decide +kernel
theorem dX11_has_45 : decode cX11_has 45 = .ok (.getfield 74, 3) := by decide +kernel
theorem dX11_has_48 : decode cX11_has 48 = .ok (.getfield 122, 3) := by decide +kernel
theorem dX11_has_51 : decode cX11_has 51 = .ok (.iload_n 1, 1) := by decide +kernel
theorem dX11_has_52 : decode cX11_has 52 = .ok (.iaload, 1) := by decide +kernel
theorem dX11_has_53 : decode cX11_has 53 = .ok (.goto 4, 3) := by decide +kernel
theorem dX11_has_56 : decode cX11_has 56 = .ok (.iconst (-1), 1) := by decide +kernel
theorem dX11_has_57 : decode cX11_has 57 = .ok (.ireturn, 1) := by decide +kernel
theorem dX11_refused_0 : decode cX11_refused 0 = .ok (.iload_n 1, 1) := by decide +kernel
theorem dX11_refused_1 : decode cX11_refused 1 = .ok (.ifCond .lt 19, 3) := by decide +kernel
theorem dX11_refused_4 : decode cX11_refused 4 = .ok (.iload_n 1, 1) := by decide +kernel
theorem dX11_refused_5 : decode cX11_refused 5 = .ok (.bipush 6, 2) := by decide +kernel
theorem dX11_refused_7 : decode cX11_refused 7 = .ok (.if_icmp .ge 13, 3) := by decide +kernel
theorem dX11_refused_10 : decode cX11_refused 10 = .ok (.aload_n 0, 1) := by decide +kernel
theorem dX11_refused_11 : decode cX11_refused 11 = .ok (.getfield 67, 3) := by decide +kernel
theorem dX11_refused_14 : decode cX11_refused 14 = .ok (.iload_n 1, 1) := by decide +kernel
theorem dX11_refused_15 : decode cX11_refused 15 = .ok (.dup2, 1) := by decide +kernel
theorem dX11_refused_16 : decode cX11_refused 16 = .ok (.iaload, 1) := by decide +kernel
theorem dX11_refused_17 : decode cX11_refused 17 = .ok (.iconst 1, 1) := by decide +kernel
theorem dX11_refused_18 : decode cX11_refused 18 = .ok (.iadd, 1) := by decide +kernel
theorem dX11_refused_19 : decode cX11_refused 19 = .ok (.iastore, 1) := by decide +kernel
theorem dX11_refused_20 : decode cX11_refused 20 = .ok (.iconst (-1), 1) := by decide +kernel
theorem dX11_refused_21 : decode cX11_refused 21 = .ok (.ireturn, 1) := by decide +kernel
