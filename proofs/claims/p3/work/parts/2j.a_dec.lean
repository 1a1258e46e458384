theorem dX5_readTown_0 : decode cX5_readTown 0 = .ok (.aload_n 1, 1) := by decide +kernel
theorem dX5_readTown_1 : decode cX5_readTown 1 = .ok (.invokevirtual 46, 3) := by decide +kernel
theorem dX5_readTown_4 : decode cX5_readTown 4 = .ok (.aload_n 0, 1) := by decide +kernel
theorem dX5_readTown_5 : decode cX5_readTown 5 = .ok (.getfield 30, 3) := by decide +kernel
theorem dX5_readTown_8 : decode cX5_readTown 8 = .ok (.invokevirtual 51, 3) := by decide +kernel
theorem dX5_readTown_11 : decode cX5_readTown 11 = .ok (.aload_n 0, 1) := by decide +kernel
theorem dX5_readTown_12 : decode cX5_readTown 12 = .ok (.iconst 0, 1) := by decide +kernel
theorem dX5_readTown_13 : decode cX5_readTown 13 = .ok (.putfield 15, 3) := by decide +kernel
theorem dX5_readTown_16 : decode cX5_readTown 16 = .ok (.aload_n 0, 1) := by decide +kernel
theorem dX5_readTown_17 : decode cX5_readTown 17 = .ok (.iconst (-1), 1) := by decide +kernel
theorem dX5_readTown_18 : decode cX5_readTown 18 = .ok (.putfield 19, 3) := by decide +kernel
theorem dX5_readTown_21 : decode cX5_readTown 21 = .ok (.iconst 0, 1) := by decide +kernel
theorem dX5_readTown_22 : decode cX5_readTown 22 = .ok (.istore_n 2, 1) := by decide +kernel
theorem dX5_readTown_23 : decode cX5_readTown 23 = .ok (.iload_n 2, 1) := by decide +kernel
theorem dX5_readTown_24 : decode cX5_readTown 24 = .ok (.sipush 1600, 3) := by decide +kernel
theorem dX5_readTown_27 : decode cX5_readTown 27 = .ok (.if_icmp .gt 225, 3) := by decide +kernel
theorem dX5_readTown_30 : decode cX5_readTown 30 = .ok (.aload_n 0, 1) := by decide +kernel
theorem dX5_readTown_31 : decode cX5_readTown 31 = .ok (.getfield 30, 3) := by decide +kernel
theorem dX5_readTown_34 : decode cX5_readTown 34 = .ok (.invokevirtual 54, 3) := by decide +kernel
theorem dX5_readTown_37 : decode cX5_readTown 37 = .ok (.aload_n 0, 1) := by decide +kernel
theorem dX5_readTown_38 : decode cX5_readTown 38 = .ok (.getfield 30, 3) := by decide +kernel
theorem dX5_readTown_41 : decode cX5_readTown 41 = .ok (.getfield 57, 3) := by decide +kernel
theorem dX5_readTown_44 : decode cX5_readTown 44 = .ok (.ifCond .ne 5, 3) := by decide +kernel
theorem dX5_readTown_47 : decode cX5_readTown 47 = .ok (.iload_n 2, 1) := by decide +kernel
theorem dX5_readTown_48 : decode cX5_readTown 48 = .ok (.ireturn, 1) := by decide +kernel
theorem dX5_readTown_49 : decode cX5_readTown 49 = .ok (.aload_n 0, 1) := by decide +kernel
theorem dX5_readTown_50 : decode cX5_readTown 50 = .ok (.aload_n 1, 1) := by decide +kernel
theorem dX5_readTown_51 : decode cX5_readTown 51 = .ok (.invokevirtual 60, 3) := by decide +kernel
theorem dX5_readTown_54 : decode cX5_readTown 54 = .ok (.tableswitch 175 0 11 #[62, 76, 85, 94, 103, 112, 121, 130, 139, 148, 157, 166], 62) := by decide +kernel
theorem dX5_readTown_116 : decode cX5_readTown 116 = .ok (.aload_n 1, 1) := by decide +kernel
theorem dX5_readTown_117 : decode cX5_readTown 117 = .ok (.iconst 0, 1) := by decide +kernel
theorem dX5_readTown_118 : decode cX5_readTown 118 = .ok (.aload_n 0, 1) := by decide +kernel
theorem dX5_readTown_119 : decode cX5_readTown 119 = .ok (.aload_n 1, 1) := by decide +kernel
theorem dX5_readTown_120 : decode cX5_readTown 120 = .ok (.invokevirtual 64, 3) := by decide +kernel
theorem dX5_readTown_123 : decode cX5_readTown 123 = .ok (.invokevirtual 67, 3) := by decide +kernel
theorem dX5_readTown_126 : decode cX5_readTown 126 = .ok (.istore_n 3, 1) := by decide +kernel
theorem dX5_readTown_127 : decode cX5_readTown 127 = .ok (.goto 104, 3) := by decide +kernel
theorem dX5_readTown_130 : decode cX5_readTown 130 = .ok (.aload_n 0, 1) := by decide +kernel
theorem dX5_readTown_131 : decode cX5_readTown 131 = .ok (.aload_n 1, 1) := by decide +kernel
theorem dX5_readTown_132 : decode cX5_readTown 132 = .ok (.invokevirtual 71, 3) := by decide +kernel
theorem dX5_readTown_135 : decode cX5_readTown 135 = .ok (.istore_n 3, 1) := by decide +kernel
theorem dX5_readTown_136 : decode cX5_readTown 136 = .ok (.goto 95, 3) := by decide +kernel
theorem dX5_readTown_139 : decode cX5_readTown 139 = .ok (.aload_n 0, 1) := by decide +kernel
theorem dX5_readTown_140 : decode cX5_readTown 140 = .ok (.aload_n 1, 1) := by decide +kernel
theorem dX5_readTown_141 : decode cX5_readTown 141 = .ok (.invokevirtual 75, 3) := by decide +kernel
theorem dX5_readTown_144 : decode cX5_readTown 144 = .ok (.istore_n 3, 1) := by decide +kernel
theorem dX5_readTown_145 : decode cX5_readTown 145 = .ok (.goto 86, 3) := by decide +kernel
theorem dX5_readTown_148 : decode cX5_readTown 148 = .ok (.aload_n 0, 1) := by decide +kernel
theorem dX5_readTown_149 : decode cX5_readTown 149 = .ok (.aload_n 1, 1) := by decide +kernel
theorem dX5_readTown_150 : decode cX5_readTown 150 = .ok (.invokevirtual 78, 3) := by decide +kernel
theorem dX5_readTown_153 : decode cX5_readTown 153 = .ok (.istore_n 3, 1) := by decide +kernel
theorem dX5_readTown_154 : decode cX5_readTown 154 = .ok (.goto 77, 3) := by decide +kernel
theorem dX5_readTown_157 : decode cX5_readTown 157 = .ok (.aload_n 0, 1) := by decide +kernel
theorem dX5_readTown_158 : decode cX5_readTown 158 = .ok (.aload_n 1, 1) := by decide +kernel
theorem dX5_readTown_159 : decode cX5_readTown 159 = .ok (.invokevirtual 81, 3) := by decide +kernel
theorem dX5_readTown_162 : decode cX5_readTown 162 = .ok (.istore_n 3, 1) := by decide +kernel
theorem dX5_readTown_163 : decode cX5_readTown 163 = .ok (.goto 68, 3) := by decide +kernel
theorem dX5_readTown_166 : decode cX5_readTown 166 = .ok (.aload_n 0, 1) := by decide +kernel
theorem dX5_readTown_167 : decode cX5_readTown 167 = .ok (.aload_n 1, 1) := by decide +kernel
theorem dX5_readTown_168 : decode cX5_readTown 168 = .ok (.invokevirtual 84, 3) := by decide +kernel
theorem dX5_readTown_171 : decode cX5_readTown 171 = .ok (.istore_n 3, 1) := by decide +kernel
theorem dX5_readTown_172 : decode cX5_readTown 172 = .ok (.goto 59, 3) := by decide +kernel
theorem dX5_readTown_175 : decode cX5_readTown 175 = .ok (.aload_n 0, 1) := by decide +kernel
theorem dX5_readTown_176 : decode cX5_readTown 176 = .ok (.aload_n 1, 1) := by decide +kernel
theorem dX5_readTown_177 : decode cX5_readTown 177 = .ok (.invokevirtual 87, 3) := by decide +kernel
theorem dX5_readTown_180 : decode cX5_readTown 180 = .ok (.istore_n 3, 1) := by decide +kernel
theorem dX5_readTown_181 : decode cX5_readTown 181 = .ok (.goto 50, 3) := by decide +kernel
theorem dX5_readTown_184 : decode cX5_readTown 184 = .ok (.aload_n 0, 1) := by decide +kernel
theorem dX5_readTown_185 : decode cX5_readTown 185 = .ok (.aload_n 1, 1) := by decide +kernel
theorem dX5_readTown_186 : decode cX5_readTown 186 = .ok (.invokevirtual 90, 3) := by decide +kernel
theorem dX5_readTown_189 : decode cX5_readTown 189 = .ok (.istore_n 3, 1) := by decide +kernel
theorem dX5_readTown_190 : decode cX5_readTown 190 = .ok (.goto 41, 3) := by decide +kernel
theorem dX5_readTown_193 : decode cX5_readTown 193 = .ok (.aload_n 0, 1) := by decide +kernel
theorem dX5_readTown_194 : decode cX5_readTown 194 = .ok (.aload_n 1, 1) := by decide +kernel
theorem dX5_readTown_195 : decode cX5_readTown 195 = .ok (.invokevirtual 93, 3) := by decide +kernel
theorem dX5_readTown_198 : decode cX5_readTown 198 = .ok (.istore_n 3, 1) := by decide +kernel
theorem dX5_readTown_199 : decode cX5_readTown 199 = .ok (.goto 32, 3) := by decide +kernel
theorem dX5_readTown_202 : decode cX5_readTown 202 = .ok (.aload_n 0, 1) := by decide +kernel
theorem dX5_readTown_203 : decode cX5_readTown 203 = .ok (.aload_n 1, 1) := by decide +kernel
theorem dX5_readTown_204 : decode cX5_readTown 204 = .ok (.invokevirtual 96, 3) := by decide +kernel
theorem dX5_readTown_207 : decode cX5_readTown 207 = .ok (.istore_n 3, 1) := by decide +kernel
theorem dX5_readTown_208 : decode cX5_readTown 208 = .ok (.goto 23, 3) := by decide +kernel
theorem dX5_readTown_211 : decode cX5_readTown 211 = .ok (.aload_n 0, 1) := by decide +kernel
theorem dX5_readTown_212 : decode cX5_readTown 212 = .ok (.aload_n 1, 1) := by decide +kernel
theorem dX5_readTown_213 : decode cX5_readTown 213 = .ok (.invokevirtual 99, 3) := by decide +kernel
theorem dX5_readTown_216 : decode cX5_readTown 216 = .ok (.istore_n 3, 1) := by decide +kernel
theorem dX5_readTown_217 : decode cX5_readTown 217 = .ok (.goto 14, 3) := by decide +kernel
theorem dX5_readTown_220 : decode cX5_readTown 220 = .ok (.aload_n 0, 1) := by decide +kernel
theorem dX5_readTown_221 : decode cX5_readTown 221 = .ok (.aload_n 1, 1) := by decide +kernel
theorem dX5_readTown_222 : decode cX5_readTown 222 = .ok (.invokevirtual 102, 3) := by decide +kernel
theorem dX5_readTown_225 : decode cX5_readTown 225 = .ok (.istore_n 3, 1) := by decide +kernel
theorem dX5_readTown_226 : decode cX5_readTown 226 = .ok (.goto 5, 3) := by decide +kernel
theorem dX5_readTown_229 : decode cX5_readTown 229 = .ok (.iconst 0, 1) := by decide +kernel
theorem dX5_readTown_230 : decode cX5_readTown 230 = .ok (.istore_n 3, 1) := by decide +kernel
theorem dX5_readTown_231 : decode cX5_readTown 231 = .ok (.iload_n 3, 1) := by decide +kernel
theorem dX5_readTown_232 : decode cX5_readTown 232 = .ok (.ifCond .eq 12, 3) := by decide +kernel
theorem dX5_readTown_235 : decode cX5_readTown 235 = .ok (.aload_n 0, 1) := by decide +kernel
theorem dX5_readTown_236 : decode cX5_readTown 236 = .ok (.bipush 59, 2) := by decide +kernel
theorem dX5_readTown_238 : decode cX5_readTown 238 = .ok (.invokevirtual 105, 3) := by decide +kernel
theorem dX5_readTown_241 : decode cX5_readTown 241 = .ok (.ifCond .ne 5, 3) := by decide +kernel
theorem dX5_readTown_244 : decode cX5_readTown 244 = .ok (.iconst (-1), 1) := by decide +kernel
theorem dX5_readTown_245 : decode cX5_readTown 245 = .ok (.ireturn, 1) := by decide +kernel
theorem dX5_readTown_246 : decode cX5_readTown 246 = .ok (.iinc 2 1, 3) := by decide +kernel
theorem dX5_readTown_249 : decode cX5_readTown 249 = .ok (.goto (-226), 3) := by decide +kernel
theorem dX5_readTown_252 : decode cX5_readTown 252 = .ok (.iconst (-1), 1) := by decide +kernel
theorem dX5_readTown_253 : decode cX5_readTown 253 = .ok (.ireturn, 1) := by decide +kernel
theorem dX5_readDoor_0 : decode cX5_readDoor 0 = .ok (.aload_n 0, 1) := by decide +kernel
theorem dX5_readDoor_1 : decode cX5_readDoor 1 = .ok (.aload_n 1, 1) := by decide +kernel
theorem dX5_readDoor_2 : decode cX5_readDoor 2 = .ok (.invokevirtual 64, 3) := by decide +kernel
theorem dX5_readDoor_5 : decode cX5_readDoor 5 = .ok (.istore_n 2, 1) := by decide +kernel
theorem dX5_readDoor_6 : decode cX5_readDoor 6 = .ok (.iload_n 2, 1) := by decide +kernel
theorem dX5_readDoor_7 : decode cX5_readDoor 7 = .ok (.iconst (-1), 1) := by decide +kernel
theorem dX5_readDoor_8 : decode cX5_readDoor 8 = .ok (.if_icmp .ne 7, 3) := by decide +kernel
theorem dX5_readDoor_11 : decode cX5_readDoor 11 = .ok (.iconst (-1), 1) := by decide +kernel
theorem dX5_readDoor_12 : decode cX5_readDoor 12 = .ok (.goto 9, 3) := by decide +kernel
theorem dX5_readDoor_15 : decode cX5_readDoor 15 = .ok (.aload_n 0, 1) := by decide +kernel
theorem dX5_readDoor_16 : decode cX5_readDoor 16 = .ok (.aload_n 1, 1) := by decide +kernel
theorem dX5_readDoor_17 : decode cX5_readDoor 17 = .ok (.iconst 0, 1) := by decide +kernel
theorem dX5_readDoor_18 : decode cX5_readDoor 18 = .ok (.invokevirtual 128, 3) := by decide +kernel
theorem dX5_readDoor_21 : decode cX5_readDoor 21 = .ok (.istore_n 3, 1) := by decide +kernel
theorem dX5_readDoor_22 : decode cX5_readDoor 22 = .ok (.iload_n 3, 1) := by decide +kernel
theorem dX5_readDoor_23 : decode cX5_readDoor 23 = .ok (.iconst (-1), 1) := by decide +kernel
theorem dX5_readDoor_24 : decode cX5_readDoor 24 = .ok (.if_icmp .ne 7, 3) := by decide +kernel
theorem dX5_readDoor_27 : decode cX5_readDoor 27 = .ok (.iconst (-1), 1) := by decide +kernel
theorem dX5_readDoor_28 : decode cX5_readDoor 28 = .ok (.goto 9, 3) := by decide +kernel
theorem dX5_readDoor_31 : decode cX5_readDoor 31 = .ok (.aload_n 0, 1) := by decide +kernel
theorem dX5_readDoor_32 : decode cX5_readDoor 32 = .ok (.aload_n 1, 1) := by decide +kernel
theorem dX5_readDoor_33 : decode cX5_readDoor 33 = .ok (.iconst 0, 1) := by decide +kernel
theorem dX5_readDoor_34 : decode cX5_readDoor 34 = .ok (.invokevirtual 128, 3) := by decide +kernel
theorem dX5_readDoor_37 : decode cX5_readDoor 37 = .ok (.istore 4, 2) := by decide +kernel
theorem dX5_readDoor_39 : decode cX5_readDoor 39 = .ok (.iload 4, 2) := by decide +kernel
theorem dX5_readDoor_41 : decode cX5_readDoor 41 = .ok (.iconst (-1), 1) := by decide +kernel
theorem dX5_readDoor_42 : decode cX5_readDoor 42 = .ok (.if_icmp .ne 5, 3) := by decide +kernel
theorem dX5_readDoor_45 : decode cX5_readDoor 45 = .ok (.iconst 0, 1) := by decide +kernel
theorem dX5_readDoor_46 : decode cX5_readDoor 46 = .ok (.ireturn, 1) := by decide +kernel
theorem dX5_readDoor_47 : decode cX5_readDoor 47 = .ok (.iload 4, 2) := by decide +kernel
theorem dX5_readDoor_49 : decode cX5_readDoor 49 = .ok (.iload_n 3, 1) := by decide +kernel
theorem dX5_readDoor_50 : decode cX5_readDoor 50 = .ok (.if_icmp .ne 9, 3) := by decide +kernel
theorem dX5_readDoor_53 : decode cX5_readDoor 53 = .ok (.aload_n 0, 1) := by decide +kernel
theorem dX5_readDoor_54 : decode cX5_readDoor 54 = .ok (.iconst 3, 1) := by decide +kernel
theorem dX5_readDoor_55 : decode cX5_readDoor 55 = .ok (.invokevirtual 132, 3) := by decide +kernel
theorem dX5_readDoor_58 : decode cX5_readDoor 58 = .ok (.ireturn, 1) := by decide +kernel
theorem dX5_readDoor_59 : decode cX5_readDoor 59 = .ok (.aload_n 0, 1) := by decide +kernel
theorem dX5_readDoor_60 : decode cX5_readDoor 60 = .ok (.iconst 1, 1) := by decide +kernel
theorem dX5_readDoor_61 : decode cX5_readDoor 61 = .ok (.bipush 99, 2) := by decide +kernel
theorem dX5_readDoor_63 : decode cX5_readDoor 63 = .ok (.invokevirtual 136, 3) := by decide +kernel
theorem dX5_readDoor_66 : decode cX5_readDoor 66 = .ok (.istore 5, 2) := by decide +kernel
theorem dX5_readDoor_68 : decode cX5_readDoor 68 = .ok (.iload 5, 2) := by decide +kernel
theorem dX5_readDoor_70 : decode cX5_readDoor 70 = .ok (.iconst (-1), 1) := by decide +kernel
theorem dX5_readDoor_71 : decode cX5_readDoor 71 = .ok (.if_icmp .eq 20, 3) := by decide +kernel
theorem dX5_readDoor_74 : decode cX5_readDoor 74 = .ok (.aload_n 1, 1) := by decide +kernel
theorem dX5_readDoor_75 : decode cX5_readDoor 75 = .ok (.iload_n 2, 1) := by decide +kernel
theorem dX5_readDoor_76 : decode cX5_readDoor 76 = .ok (.iload_n 3, 1) := by decide +kernel
theorem dX5_readDoor_77 : decode cX5_readDoor 77 = .ok (.iload 4, 2) := by decide +kernel
theorem dX5_readDoor_79 : decode cX5_readDoor 79 = .ok (.iload 5, 2) := by decide +kernel
theorem dX5_readDoor_81 : decode cX5_readDoor 81 = .ok (.invokevirtual 140, 3) := by decide +kernel
theorem dX5_readDoor_84 : decode cX5_readDoor 84 = .ok (.ifCond .eq 7, 3) := by decide +kernel
theorem dX5_readDoor_87 : decode cX5_readDoor 87 = .ok (.iconst 1, 1) := by decide +kernel
theorem dX5_readDoor_88 : decode cX5_readDoor 88 = .ok (.goto 4, 3) := by decide +kernel
theorem dX5_readDoor_91 : decode cX5_readDoor 91 = .ok (.iconst 0, 1) := by decide +kernel
theorem dX5_readDoor_92 : decode cX5_readDoor 92 = .ok (.ireturn, 1) := by decide +kernel
theorem dX5_readBox_0 : decode cX5_readBox 0 = .ok (.aload_n 0, 1) := by decide +kernel
theorem dX5_readBox_1 : decode cX5_readBox 1 = .ok (.aload_n 1, 1) := by decide +kernel
theorem dX5_readBox_2 : decode cX5_readBox 2 = .ok (.invokevirtual 64, 3) := by decide +kernel
theorem dX5_readBox_5 : decode cX5_readBox 5 = .ok (.istore_n 2, 1) := by decide +kernel
theorem dX5_readBox_6 : decode cX5_readBox 6 = .ok (.iload_n 2, 1) := by decide +kernel
theorem dX5_readBox_7 : decode cX5_readBox 7 = .ok (.iconst (-1), 1) := by decide +kernel
theorem dX5_readBox_8 : decode cX5_readBox 8 = .ok (.if_icmp .eq 12, 3) := by decide +kernel
theorem dX5_readBox_11 : decode cX5_readBox 11 = .ok (.aload_n 0, 1) := by decide +kernel
theorem dX5_readBox_12 : decode cX5_readBox 12 = .ok (.bipush 12, 2) := by decide +kernel
theorem dX5_readBox_14 : decode cX5_readBox 14 = .ok (.invokevirtual 144, 3) := by decide +kernel
theorem dX5_readBox_17 : decode cX5_readBox 17 = .ok (.ifCond .ne 5, 3) := by decide +kernel
theorem dX5_readBox_20 : decode cX5_readBox 20 = .ok (.iconst 0, 1) := by decide +kernel
theorem dX5_readBox_21 : decode cX5_readBox 21 = .ok (.ireturn, 1) := by decide +kernel
theorem dX5_readBox_22 : decode cX5_readBox 22 = .ok (.aload_n 0, 1) := by decide +kernel
theorem dX5_readBox_23 : decode cX5_readBox 23 = .ok (.aload_n 1, 1) := by decide +kernel
theorem dX5_readBox_24 : decode cX5_readBox 24 = .ok (.iconst 0, 1) := by decide +kernel
theorem dX5_readBox_25 : decode cX5_readBox 25 = .ok (.invokevirtual 128, 3) := by decide +kernel
theorem dX5_readBox_28 : decode cX5_readBox 28 = .ok (.istore_n 3, 1) := by decide +kernel
theorem dX5_readBox_29 : decode cX5_readBox 29 = .ok (.iload_n 3, 1) := by decide +kernel
theorem dX5_readBox_30 : decode cX5_readBox 30 = .ok (.iconst (-1), 1) := by decide +kernel
theorem dX5_readBox_31 : decode cX5_readBox 31 = .ok (.if_icmp .eq 18, 3) := by decide +kernel
theorem dX5_readBox_34 : decode cX5_readBox 34 = .ok (.aload_n 1, 1) := by decide +kernel
theorem dX5_readBox_35 : decode cX5_readBox 35 = .ok (.iload_n 2, 1) := by decide +kernel
theorem dX5_readBox_36 : decode cX5_readBox 36 = .ok (.iload_n 3, 1) := by decide +kernel
theorem dX5_readBox_37 : decode cX5_readBox 37 = .ok (.iload_n 3, 1) := by decide +kernel
theorem dX5_readBox_38 : decode cX5_readBox 38 = .ok (.iconst 0, 1) := by decide +kernel
theorem dX5_readBox_39 : decode cX5_readBox 39 = .ok (.invokevirtual 140, 3) := by decide +kernel
theorem dX5_readBox_42 : decode cX5_readBox 42 = .ok (.ifCond .eq 7, 3) := by decide +kernel
theorem dX5_readBox_45 : decode cX5_readBox 45 = .ok (.iconst 1, 1) := by decide +kernel
theorem dX5_readBox_46 : decode cX5_readBox 46 = .ok (.goto 4, 3) := by decide +kernel
theorem dX5_readBox_49 : decode cX5_readBox 49 = .ok (.iconst 0, 1) := by decide +kernel
theorem dX5_readBox_50 : decode cX5_readBox 50 = .ok (.ireturn, 1) := by decide +kernel
theorem dX5_readKey_0 : decode cX5_readKey 0 = .ok (.aload_n 0, 1) := by decide +kernel
theorem dX5_readKey_1 : decode cX5_readKey 1 = .ok (.aload_n 1, 1) := by decide +kernel
theorem dX5_readKey_2 : decode cX5_readKey 2 = .ok (.invokevirtual 64, 3) := by decide +kernel
theorem dX5_readKey_5 : decode cX5_readKey 5 = .ok (.istore_n 2, 1) := by decide +kernel
theorem dX5_readKey_6 : decode cX5_readKey 6 = .ok (.iload_n 2, 1) := by decide +kernel
theorem dX5_readKey_7 : decode cX5_readKey 7 = .ok (.iconst (-1), 1) := by decide +kernel
theorem dX5_readKey_8 : decode cX5_readKey 8 = .ok (.if_icmp .eq 12, 3) := by decide +kernel
theorem dX5_readKey_11 : decode cX5_readKey 11 = .ok (.aload_n 0, 1) := by decide +kernel
theorem dX5_readKey_12 : decode cX5_readKey 12 = .ok (.bipush 13, 2) := by decide +kernel
theorem dX5_readKey_14 : decode cX5_readKey 14 = .ok (.invokevirtual 144, 3) := by decide +kernel
theorem dX5_readKey_17 : decode cX5_readKey 17 = .ok (.ifCond .ne 5, 3) := by decide +kernel
theorem dX5_readKey_20 : decode cX5_readKey 20 = .ok (.iconst 0, 1) := by decide +kernel
theorem dX5_readKey_21 : decode cX5_readKey 21 = .ok (.ireturn, 1) := by decide +kernel
theorem dX5_readKey_22 : decode cX5_readKey 22 = .ok (.aload_n 0, 1) := by decide +kernel
theorem dX5_readKey_23 : decode cX5_readKey 23 = .ok (.aload_n 1, 1) := by decide +kernel
theorem dX5_readKey_24 : decode cX5_readKey 24 = .ok (.invokevirtual 147, 3) := by decide +kernel
theorem dX5_readKey_27 : decode cX5_readKey 27 = .ok (.istore_n 3, 1) := by decide +kernel
theorem dX5_readKey_28 : decode cX5_readKey 28 = .ok (.iload_n 3, 1) := by decide +kernel
theorem dX5_readKey_29 : decode cX5_readKey 29 = .ok (.iconst (-1), 1) := by decide +kernel
theorem dX5_readKey_30 : decode cX5_readKey 30 = .ok (.if_icmp .eq 16, 3) := by decide +kernel
theorem dX5_readKey_33 : decode cX5_readKey 33 = .ok (.aload_n 1, 1) := by decide +kernel
theorem dX5_readKey_34 : decode cX5_readKey 34 = .ok (.iload_n 2, 1) := by decide +kernel
theorem dX5_readKey_35 : decode cX5_readKey 35 = .ok (.iload_n 3, 1) := by decide +kernel
theorem dX5_readKey_36 : decode cX5_readKey 36 = .ok (.invokevirtual 150, 3) := by decide +kernel
theorem dX5_readKey_39 : decode cX5_readKey 39 = .ok (.ifCond .eq 7, 3) := by decide +kernel
theorem dX5_readKey_42 : decode cX5_readKey 42 = .ok (.iconst 1, 1) := by decide +kernel
theorem dX5_readKey_43 : decode cX5_readKey 43 = .ok (.goto 4, 3) := by decide +kernel
theorem dX5_readKey_46 : decode cX5_readKey 46 = .ok (.iconst 0, 1) := by decide +kernel
theorem dX5_readKey_47 : decode cX5_readKey 47 = .ok (.ireturn, 1) := by decide +kernel
theorem dX6_topOf_0 : decode cX6_topOf 0 = .ok (.iload_n 1, 1) := by decide +kernel
theorem dX6_topOf_1 : decode cX6_topOf 1 = .ok (.ifCond .lt 24, 3) := by decide +kernel
theorem dX6_topOf_4 : decode cX6_topOf 4 = .ok (.iload_n 1, 1) := by decide +kernel
theorem dX6_topOf_5 : decode cX6_topOf 5 = .ok (.iconst 4, 1) := by decide +kernel
theorem dX6_topOf_6 : decode cX6_topOf 6 = .ok (.if_icmp .ge 19, 3) := by decide +kernel
theorem dX6_topOf_9 : decode cX6_topOf 9 = .ok (.aload_n 0, 1) := by decide +kernel
theorem dX6_topOf_10 : decode cX6_topOf 10 = .ok (.iload_n 1, 1) := by decide +kernel
theorem dX6_topOf_11 : decode cX6_topOf 11 = .ok (.aload_n 0, 1) := by decide +kernel
theorem dX6_topOf_12 : decode cX6_topOf 12 = .ok (.getfield 18, 3) := by decide +kernel
theorem dX6_topOf_15 : decode cX6_topOf 15 = .ok (.iload_n 1, 1) := by decide +kernel
theorem dX6_topOf_16 : decode cX6_topOf 16 = .ok (.iaload, 1) := by decide +kernel
theorem dX6_topOf_17 : decode cX6_topOf 17 = .ok (.iconst 1, 1) := by decide +kernel
theorem dX6_topOf_18 : decode cX6_topOf 18 = .ok (.isub, 1) := by decide +kernel
theorem dX6_topOf_19 : decode cX6_topOf 19 = .ok (.invokevirtual 26, 3) := by decide +kernel
theorem dX6_topOf_22 : decode cX6_topOf 22 = .ok (.goto 4, 3) := by decide +kernel
theorem dX6_topOf_25 : decode cX6_topOf 25 = .ok (.iconst (-1), 1) := by decide +kernel
theorem dX6_topOf_26 : decode cX6_topOf 26 = .ok (.ireturn, 1) := by decide +kernel
theorem dX7_hasRoom_0 : decode cX7_hasRoom 0 = .ok (.aload_n 0, 1) := by decide +kernel
theorem dX7_hasRoom_1 : decode cX7_hasRoom 1 = .ok (.getfield 15, 3) := by decide +kernel
theorem dX7_hasRoom_4 : decode cX7_hasRoom 4 = .ok (.bipush 20, 2) := by decide +kernel
theorem dX7_hasRoom_6 : decode cX7_hasRoom 6 = .ok (.iadd, 1) := by decide +kernel
theorem dX7_hasRoom_7 : decode cX7_hasRoom 7 = .ok (.sipush 1600, 3) := by decide +kernel
theorem dX7_hasRoom_10 : decode cX7_hasRoom 10 = .ok (.if_icmp .gt 7, 3) := by decide +kernel
theorem dX7_hasRoom_13 : decode cX7_hasRoom 13 = .ok (.iconst 1, 1) := by decide +kernel
theorem dX7_hasRoom_14 : decode cX7_hasRoom 14 = .ok (.goto 4, 3) := by decide +kernel
theorem dX7_hasRoom_17 : decode cX7_hasRoom 17 = .ok (.iconst 0, 1) := by decide +kernel
theorem dX7_hasRoom_18 : decode cX7_hasRoom 18 = .ok (.ireturn, 1) := by decide +kernel
theorem dX7_put_0 : decode cX7_put 0 = .ok (.bipush 24, 2) := by decide +kernel
theorem dX7_put_2 : decode cX7_put 2 = .ok (.istore_n 2, 1) := by decide +kernel
theorem dX7_put_3 : decode cX7_put 3 = .ok (.iload_n 2, 1) := by decide +kernel
theorem dX7_put_4 : decode cX7_put 4 = .ok (.ifCond .lt 49, 3) := by decide +kernel
theorem dX7_put_7 : decode cX7_put 7 = .ok (.aload_n 0, 1) := by decide +kernel
theorem dX7_put_8 : decode cX7_put 8 = .ok (.getfield 15, 3) := by decide +kernel
theorem dX7_put_11 : decode cX7_put 11 = .ok (.ifCond .lt 36, 3) := by decide +kernel
theorem dX7_put_14 : decode cX7_put 14 = .ok (.aload_n 0, 1) := by decide +kernel
theorem dX7_put_15 : decode cX7_put 15 = .ok (.getfield 15, 3) := by decide +kernel
theorem dX7_put_18 : decode cX7_put 18 = .ok (.sipush 1600, 3) := by decide +kernel
theorem dX7_put_21 : decode cX7_put 21 = .ok (.if_icmp .ge 26, 3) := by decide +kernel
theorem dX7_put_24 : decode cX7_put 24 = .ok (.aload_n 0, 1) := by decide +kernel
theorem dX7_put_25 : decode cX7_put 25 = .ok (.getfield 9, 3) := by decide +kernel
theorem dX7_put_28 : decode cX7_put 28 = .ok (.aload_n 0, 1) := by decide +kernel
theorem dX7_put_29 : decode cX7_put 29 = .ok (.getfield 15, 3) := by decide +kernel
theorem dX7_put_32 : decode cX7_put 32 = .ok (.iload_n 1, 1) := by decide +kernel
theorem dX7_put_33 : decode cX7_put 33 = .ok (.iload_n 2, 1) := by decide +kernel
theorem dX7_put_34 : decode cX7_put 34 = .ok (.ishr, 1) := by decide +kernel
theorem dX7_put_35 : decode cX7_put 35 = .ok (.i2b, 1) := by decide +kernel
theorem dX7_put_36 : decode cX7_put 36 = .ok (.bastore, 1) := by decide +kernel
theorem dX7_put_37 : decode cX7_put 37 = .ok (.aload_n 0, 1) := by decide +kernel
theorem dX7_put_38 : decode cX7_put 38 = .ok (.dup, 1) := by decide +kernel
theorem dX7_put_39 : decode cX7_put 39 = .ok (.getfield 15, 3) := by decide +kernel
theorem dX7_put_42 : decode cX7_put 42 = .ok (.iconst 1, 1) := by decide +kernel
theorem dX7_put_43 : decode cX7_put 43 = .ok (.iadd, 1) := by decide +kernel
theorem dX7_put_44 : decode cX7_put 44 = .ok (.putfield 15, 3) := by decide +kernel
theorem dX7_put_47 : decode cX7_put 47 = .ok (.iinc 2 (-8), 3) := by decide +kernel
theorem dX7_put_50 : decode cX7_put 50 = .ok (.goto (-47), 3) := by decide +kernel
theorem dX7_put_53 : decode cX7_put 53 = .ok (.return_, 1) := by decide +kernel
theorem dX9_addDoor_0 : decode cX9_addDoor 0 = .ok (.aload_n 0, 1) := by decide +kernel
theorem dX9_addDoor_1 : decode cX9_addDoor 1 = .ok (.iconst 1, 1) := by decide +kernel
theorem dX9_addDoor_2 : decode cX9_addDoor 2 = .ok (.iload_n 1, 1) := by decide +kernel
theorem dX9_addDoor_3 : decode cX9_addDoor 3 = .ok (.invokevirtual 80, 3) := by decide +kernel
theorem dX9_addDoor_6 : decode cX9_addDoor 6 = .ok (.ifCond .ne 5, 3) := by decide +kernel
theorem dX9_addDoor_9 : decode cX9_addDoor 9 = .ok (.iconst 0, 1) := by decide +kernel
theorem dX9_addDoor_10 : decode cX9_addDoor 10 = .ok (.ireturn, 1) := by decide +kernel
theorem dX9_addDoor_11 : decode cX9_addDoor 11 = .ok (.aload_n 0, 1) := by decide +kernel
theorem dX9_addDoor_12 : decode cX9_addDoor 12 = .ok (.getfield 9, 3) := by decide +kernel
theorem dX9_addDoor_15 : decode cX9_addDoor 15 = .ok (.iconst 1, 1) := by decide +kernel
theorem dX9_addDoor_16 : decode cX9_addDoor 16 = .ok (.iaload, 1) := by decide +kernel
theorem dX9_addDoor_17 : decode cX9_addDoor 17 = .ok (.iconst 1, 1) := by decide +kernel
theorem dX9_addDoor_18 : decode cX9_addDoor 18 = .ok (.isub, 1) := by decide +kernel
theorem dX9_addDoor_19 : decode cX9_addDoor 19 = .ok (.istore 5, 2) := by decide +kernel
theorem dX9_addDoor_21 : decode cX9_addDoor 21 = .ok (.aload_n 0, 1) := by decide +kernel
theorem dX9_addDoor_22 : decode cX9_addDoor 22 = .ok (.getfield 20, 3) := by decide +kernel
theorem dX9_addDoor_25 : decode cX9_addDoor 25 = .ok (.iload 5, 2) := by decide +kernel
theorem dX9_addDoor_27 : decode cX9_addDoor 27 = .ok (.iload_n 2, 1) := by decide +kernel
theorem dX9_addDoor_28 : decode cX9_addDoor 28 = .ok (.iastore, 1) := by decide +kernel
theorem dX9_addDoor_29 : decode cX9_addDoor 29 = .ok (.aload_n 0, 1) := by decide +kernel
theorem dX9_addDoor_30 : decode cX9_addDoor 30 = .ok (.getfield 23, 3) := by decide +kernel
theorem dX9_addDoor_33 : decode cX9_addDoor 33 = .ok (.iload 5, 2) := by decide +kernel
theorem dX9_addDoor_35 : decode cX9_addDoor 35 = .ok (.iload_n 3, 1) := by decide +kernel
theorem dX9_addDoor_36 : decode cX9_addDoor 36 = .ok (.iastore, 1) := by decide +kernel
theorem dX9_addDoor_37 : decode cX9_addDoor 37 = .ok (.aload_n 0, 1) := by decide +kernel
theorem dX9_addDoor_38 : decode cX9_addDoor 38 = .ok (.getfield 26, 3) := by decide +kernel
theorem dX9_addDoor_41 : decode cX9_addDoor 41 = .ok (.iload 5, 2) := by decide +kernel
theorem dX9_addDoor_43 : decode cX9_addDoor 43 = .ok (.iload 4, 2) := by decide +kernel
theorem dX9_addDoor_45 : decode cX9_addDoor 45 = .ok (.iastore, 1) := by decide +kernel
theorem dX9_addDoor_46 : decode cX9_addDoor 46 = .ok (.iconst 1, 1) := by decide +kernel
theorem dX9_addDoor_47 : decode cX9_addDoor 47 = .ok (.ireturn, 1) := by decide +kernel
theorem dX9_addKey_0 : decode cX9_addKey 0 = .ok (.aload_n 0, 1) := by decide +kernel
theorem dX9_addKey_1 : decode cX9_addKey 1 = .ok (.iconst 2, 1) := by decide +kernel
theorem dX9_addKey_2 : decode cX9_addKey 2 = .ok (.iload_n 1, 1) := by decide +kernel
theorem dX9_addKey_3 : decode cX9_addKey 3 = .ok (.invokevirtual 80, 3) := by decide +kernel
theorem dX9_addKey_6 : decode cX9_addKey 6 = .ok (.ifCond .ne 5, 3) := by decide +kernel
theorem dX9_addKey_9 : decode cX9_addKey 9 = .ok (.iconst 0, 1) := by decide +kernel
theorem dX9_addKey_10 : decode cX9_addKey 10 = .ok (.ireturn, 1) := by decide +kernel
theorem dX9_addKey_11 : decode cX9_addKey 11 = .ok (.aload_n 0, 1) := by decide +kernel
theorem dX9_addKey_12 : decode cX9_addKey 12 = .ok (.getfield 63, 3) := by decide +kernel
theorem dX9_addKey_15 : decode cX9_addKey 15 = .ok (.getfield 84, 3) := by decide +kernel
theorem dX9_addKey_18 : decode cX9_addKey 18 = .ok (.aload_n 0, 1) := by decide +kernel
theorem dX9_addKey_19 : decode cX9_addKey 19 = .ok (.getfield 9, 3) := by decide +kernel
theorem dX9_addKey_22 : decode cX9_addKey 22 = .ok (.iconst 2, 1) := by decide +kernel
theorem dX9_addKey_23 : decode cX9_addKey 23 = .ok (.iaload, 1) := by decide +kernel
theorem dX9_addKey_24 : decode cX9_addKey 24 = .ok (.iconst 1, 1) := by decide +kernel
theorem dX9_addKey_25 : decode cX9_addKey 25 = .ok (.isub, 1) := by decide +kernel
theorem dX9_addKey_26 : decode cX9_addKey 26 = .ok (.iload_n 2, 1) := by decide +kernel
theorem dX9_addKey_27 : decode cX9_addKey 27 = .ok (.iastore, 1) := by decide +kernel
theorem dX9_addKey_28 : decode cX9_addKey 28 = .ok (.iconst 1, 1) := by decide +kernel
theorem dX9_addKey_29 : decode cX9_addKey 29 = .ok (.ireturn, 1) := by decide +kernel
theorem dX9_hasDoorAt_0 : decode cX9_hasDoorAt 0 = .ok (.iconst 0, 1) := by decide +kernel
theorem dX9_hasDoorAt_1 : decode cX9_hasDoorAt 1 = .ok (.istore_n 2, 1) := by decide +kernel
theorem dX9_hasDoorAt_2 : decode cX9_hasDoorAt 2 = .ok (.iload_n 2, 1) := by decide +kernel
theorem dX9_hasDoorAt_3 : decode cX9_hasDoorAt 3 = .ok (.aload_n 0, 1) := by decide +kernel
theorem dX9_hasDoorAt_4 : decode cX9_hasDoorAt 4 = .ok (.getfield 9, 3) := by decide +kernel
theorem dX9_hasDoorAt_7 : decode cX9_hasDoorAt 7 = .ok (.iconst 1, 1) := by decide +kernel
theorem dX9_hasDoorAt_8 : decode cX9_hasDoorAt 8 = .ok (.iaload, 1) := by decide +kernel
theorem dX9_hasDoorAt_9 : decode cX9_hasDoorAt 9 = .ok (.if_icmp .ge 28, 3) := by decide +kernel
theorem dX9_hasDoorAt_12 : decode cX9_hasDoorAt 12 = .ok (.aload_n 0, 1) := by decide +kernel
theorem dX9_hasDoorAt_13 : decode cX9_hasDoorAt 13 = .ok (.iload_n 2, 1) := by decide +kernel
theorem dX9_hasDoorAt_14 : decode cX9_hasDoorAt 14 = .ok (.invokevirtual 93, 3) := by decide +kernel
theorem dX9_hasDoorAt_17 : decode cX9_hasDoorAt 17 = .ok (.ifCond .ne 14, 3) := by decide +kernel
theorem dX9_hasDoorAt_20 : decode cX9_hasDoorAt 20 = .ok (.aload_n 0, 1) := by decide +kernel
theorem dX9_hasDoorAt_21 : decode cX9_hasDoorAt 21 = .ok (.iload_n 2, 1) := by decide +kernel
theorem dX9_hasDoorAt_22 : decode cX9_hasDoorAt 22 = .ok (.iload_n 1, 1) := by decide +kernel
theorem dX9_hasDoorAt_23 : decode cX9_hasDoorAt 23 = .ok (.invokevirtual 97, 3) := by decide +kernel
theorem dX9_hasDoorAt_26 : decode cX9_hasDoorAt 26 = .ok (.ifCond .eq 5, 3) := by decide +kernel
theorem dX9_hasDoorAt_29 : decode cX9_hasDoorAt 29 = .ok (.iconst 1, 1) := by decide +kernel
theorem dX9_hasDoorAt_30 : decode cX9_hasDoorAt 30 = .ok (.ireturn, 1) := by decide +kernel
theorem dX9_hasDoorAt_31 : decode cX9_hasDoorAt 31 = .ok (.iinc 2 1, 3) := by decide +kernel
theorem dX9_hasDoorAt_34 : decode cX9_hasDoorAt 34 = .ok (.goto (-32), 3) := by decide +kernel
theorem dX9_hasDoorAt_37 : decode cX9_hasDoorAt 37 = .ok (.iconst 0, 1) := by decide +kernel
theorem dX9_hasDoorAt_38 : decode cX9_hasDoorAt 38 = .ok (.ireturn, 1) := by decide +kernel
theorem dX9_shutMask_0 : decode cX9_shutMask 0 = .ok (.aload_n 0, 1) := by decide +kernel
theorem dX9_shutMask_1 : decode cX9_shutMask 1 = .ok (.getfield 67, 3) := by decide +kernel
theorem dX9_shutMask_4 : decode cX9_shutMask 4 = .ok (.istore_n 1, 1) := by decide +kernel
theorem dX9_shutMask_5 : decode cX9_shutMask 5 = .ok (.iconst 0, 1) := by decide +kernel
theorem dX9_shutMask_6 : decode cX9_shutMask 6 = .ok (.istore_n 2, 1) := by decide +kernel
theorem dX9_shutMask_7 : decode cX9_shutMask 7 = .ok (.iload_n 2, 1) := by decide +kernel
theorem dX9_shutMask_8 : decode cX9_shutMask 8 = .ok (.aload_n 0, 1) := by decide +kernel
theorem dX9_shutMask_9 : decode cX9_shutMask 9 = .ok (.getfield 9, 3) := by decide +kernel
theorem dX9_shutMask_12 : decode cX9_shutMask 12 = .ok (.iconst 2, 1) := by decide +kernel
theorem dX9_shutMask_13 : decode cX9_shutMask 13 = .ok (.iaload, 1) := by decide +kernel
theorem dX9_shutMask_14 : decode cX9_shutMask 14 = .ok (.if_icmp .ge 20, 3) := by decide +kernel
theorem dX9_shutMask_17 : decode cX9_shutMask 17 = .ok (.iload_n 1, 1) := by decide +kernel
theorem dX9_shutMask_18 : decode cX9_shutMask 18 = .ok (.aload_n 0, 1) := by decide +kernel
theorem dX9_shutMask_19 : decode cX9_shutMask 19 = .ok (.getfield 63, 3) := by decide +kernel
theorem dX9_shutMask_22 : decode cX9_shutMask 22 = .ok (.iload_n 2, 1) := by decide +kernel
theorem dX9_shutMask_23 : decode cX9_shutMask 23 = .ok (.invokevirtual 100, 3) := by decide +kernel
theorem dX9_shutMask_26 : decode cX9_shutMask 26 = .ok (.ior, 1) := by decide +kernel
theorem dX9_shutMask_27 : decode cX9_shutMask 27 = .ok (.istore_n 1, 1) := by decide +kernel
theorem dX9_shutMask_28 : decode cX9_shutMask 28 = .ok (.iinc 2 1, 3) := by decide +kernel
theorem dX9_shutMask_31 : decode cX9_shutMask 31 = .ok (.goto (-24), 3) := by decide +kernel
theorem dX9_shutMask_34 : decode cX9_shutMask 34 = .ok (.iload_n 1, 1) := by decide +kernel
theorem dX9_shutMask_35 : decode cX9_shutMask 35 = .ok (.ireturn, 1) := by decide +kernel
theorem dX9_deadMask_0 : decode cX9_deadMask 0 = .ok (.aload_n 0, 1) := by decide +kernel
theorem dX9_deadMask_1 : decode cX9_deadMask 1 = .ok (.getfield 67, 3) := by decide +kernel
theorem dX9_deadMask_4 : decode cX9_deadMask 4 = .ok (.istore_n 1, 1) := by decide +kernel
theorem dX9_deadMask_5 : decode cX9_deadMask 5 = .ok (.iconst 0, 1) := by decide +kernel
theorem dX9_deadMask_6 : decode cX9_deadMask 6 = .ok (.istore_n 2, 1) := by decide +kernel
theorem dX9_deadMask_7 : decode cX9_deadMask 7 = .ok (.iload_n 2, 1) := by decide +kernel
theorem dX9_deadMask_8 : decode cX9_deadMask 8 = .ok (.aload_n 0, 1) := by decide +kernel
theorem dX9_deadMask_9 : decode cX9_deadMask 9 = .ok (.getfield 9, 3) := by decide +kernel
theorem dX9_deadMask_12 : decode cX9_deadMask 12 = .ok (.iconst 2, 1) := by decide +kernel
theorem dX9_deadMask_13 : decode cX9_deadMask 13 = .ok (.iaload, 1) := by decide +kernel
theorem dX9_deadMask_14 : decode cX9_deadMask 14 = .ok (.if_icmp .ge 34, 3) := by decide +kernel
theorem dX9_deadMask_17 : decode cX9_deadMask 17 = .ok (.aload_n 0, 1) := by decide +kernel
theorem dX9_deadMask_18 : decode cX9_deadMask 18 = .ok (.getfield 63, 3) := by decide +kernel
theorem dX9_deadMask_21 : decode cX9_deadMask 21 = .ok (.getfield 84, 3) := by decide +kernel
theorem dX9_deadMask_24 : decode cX9_deadMask 24 = .ok (.iload_n 2, 1) := by decide +kernel
theorem dX9_deadMask_25 : decode cX9_deadMask 25 = .ok (.iaload, 1) := by decide +kernel
theorem dX9_deadMask_26 : decode cX9_deadMask 26 = .ok (.bipush 40, 2) := by decide +kernel
theorem dX9_deadMask_28 : decode cX9_deadMask 28 = .ok (.if_icmp .ne 14, 3) := by decide +kernel
theorem dX9_deadMask_31 : decode cX9_deadMask 31 = .ok (.iload_n 1, 1) := by decide +kernel
theorem dX9_deadMask_32 : decode cX9_deadMask 32 = .ok (.aload_n 0, 1) := by decide +kernel
theorem dX9_deadMask_33 : decode cX9_deadMask 33 = .ok (.getfield 63, 3) := by decide +kernel
theorem dX9_deadMask_36 : decode cX9_deadMask 36 = .ok (.iload_n 2, 1) := by decide +kernel
theorem dX9_deadMask_37 : decode cX9_deadMask 37 = .ok (.invokevirtual 100, 3) := by decide +kernel
theorem dX9_deadMask_40 : decode cX9_deadMask 40 = .ok (.ior, 1) := by decide +kernel
theorem dX9_deadMask_41 : decode cX9_deadMask 41 = .ok (.istore_n 1, 1) := by decide +kernel
theorem dX9_deadMask_42 : decode cX9_deadMask 42 = .ok (.iinc 2 1, 3) := by decide +kernel
theorem dX9_deadMask_45 : decode cX9_deadMask 45 = .ok (.goto (-38), 3) := by decide +kernel
theorem dX9_deadMask_48 : decode cX9_deadMask 48 = .ok (.iload_n 1, 1) := by decide +kernel
theorem dX9_deadMask_49 : decode cX9_deadMask 49 = .ok (.ireturn, 1) := by decide +kernel
theorem dX9_isShut_0 : decode cX9_isShut 0 = .ok (.aload_n 0, 1) := by decide +kernel
theorem dX9_isShut_1 : decode cX9_isShut 1 = .ok (.invokevirtual 104, 3) := by decide +kernel
theorem dX9_isShut_4 : decode cX9_isShut 4 = .ok (.iload_n 1, 1) := by decide +kernel
theorem dX9_isShut_5 : decode cX9_isShut 5 = .ok (.ishr, 1) := by decide +kernel
theorem dX9_isShut_6 : decode cX9_isShut 6 = .ok (.iconst 1, 1) := by decide +kernel
theorem dX9_isShut_7 : decode cX9_isShut 7 = .ok (.iand, 1) := by decide +kernel
theorem dX9_isShut_8 : decode cX9_isShut 8 = .ok (.ifCond .eq 7, 3) := by decide +kernel
theorem dX9_isShut_11 : decode cX9_isShut 11 = .ok (.iconst 1, 1) := by decide +kernel
theorem dX9_isShut_12 : decode cX9_isShut 12 = .ok (.goto 4, 3) := by decide +kernel
theorem dX9_isShut_15 : decode cX9_isShut 15 = .ok (.iconst 0, 1) := by decide +kernel
theorem dX9_isShut_16 : decode cX9_isShut 16 = .ok (.ireturn, 1) := by decide +kernel
theorem dX9_rowsWith_0 : decode cX9_rowsWith 0 = .ok (.iconst 0, 1) := by decide +kernel
theorem dX9_rowsWith_1 : decode cX9_rowsWith 1 = .ok (.istore_n 2, 1) := by decide +kernel
theorem dX9_rowsWith_2 : decode cX9_rowsWith 2 = .ok (.iconst 0, 1) := by decide +kernel
theorem dX9_rowsWith_3 : decode cX9_rowsWith 3 = .ok (.istore_n 3, 1) := by decide +kernel
theorem dX9_rowsWith_4 : decode cX9_rowsWith 4 = .ok (.iload_n 3, 1) := by decide +kernel
theorem dX9_rowsWith_5 : decode cX9_rowsWith 5 = .ok (.aload_n 0, 1) := by decide +kernel
theorem dX9_rowsWith_6 : decode cX9_rowsWith 6 = .ok (.getfield 9, 3) := by decide +kernel
theorem dX9_rowsWith_9 : decode cX9_rowsWith 9 = .ok (.iconst 2, 1) := by decide +kernel
theorem dX9_rowsWith_10 : decode cX9_rowsWith 10 = .ok (.iaload, 1) := by decide +kernel
theorem dX9_rowsWith_11 : decode cX9_rowsWith 11 = .ok (.if_icmp .ge 25, 3) := by decide +kernel
theorem dX9_rowsWith_14 : decode cX9_rowsWith 14 = .ok (.aload_n 0, 1) := by decide +kernel
theorem dX9_rowsWith_15 : decode cX9_rowsWith 15 = .ok (.getfield 63, 3) := by decide +kernel
theorem dX9_rowsWith_18 : decode cX9_rowsWith 18 = .ok (.iload_n 3, 1) := by decide +kernel
theorem dX9_rowsWith_19 : decode cX9_rowsWith 19 = .ok (.iload_n 1, 1) := by decide +kernel
theorem dX9_rowsWith_20 : decode cX9_rowsWith 20 = .ok (.invokevirtual 108, 3) := by decide +kernel
theorem dX9_rowsWith_23 : decode cX9_rowsWith 23 = .ok (.iconst (-1), 1) := by decide +kernel
theorem dX9_rowsWith_24 : decode cX9_rowsWith 24 = .ok (.if_icmp .eq 6, 3) := by decide +kernel
theorem dX9_rowsWith_27 : decode cX9_rowsWith 27 = .ok (.iinc 2 1, 3) := by decide +kernel
theorem dX9_rowsWith_30 : decode cX9_rowsWith 30 = .ok (.iinc 3 1, 3) := by decide +kernel
theorem dX9_rowsWith_33 : decode cX9_rowsWith 33 = .ok (.goto (-29), 3) := by decide +kernel
theorem dX9_rowsWith_36 : decode cX9_rowsWith 36 = .ok (.iload_n 2, 1) := by decide +kernel
theorem dX9_rowsWith_37 : decode cX9_rowsWith 37 = .ok (.ireturn, 1) := by decide +kernel
theorem dX9_holdsKey_0 : decode cX9_holdsKey 0 = .ok (.aload_n 0, 1) := by decide +kernel
theorem dX9_holdsKey_1 : decode cX9_holdsKey 1 = .ok (.iconst 3, 1) := by decide +kernel
theorem dX9_holdsKey_2 : decode cX9_holdsKey 2 = .ok (.iload_n 1, 1) := by decide +kernel
theorem dX9_holdsKey_3 : decode cX9_holdsKey 3 = .ok (.invokevirtual 90, 3) := by decide +kernel
theorem dX9_holdsKey_6 : decode cX9_holdsKey 6 = .ok (.ifCond .eq 29, 3) := by decide +kernel
theorem dX9_holdsKey_9 : decode cX9_holdsKey 9 = .ok (.aload_n 0, 1) := by decide +kernel
theorem dX9_holdsKey_10 : decode cX9_holdsKey 10 = .ok (.iconst 2, 1) := by decide +kernel
theorem dX9_holdsKey_11 : decode cX9_holdsKey 11 = .ok (.iload_n 2, 1) := by decide +kernel
theorem dX9_holdsKey_12 : decode cX9_holdsKey 12 = .ok (.invokevirtual 90, 3) := by decide +kernel
theorem dX9_holdsKey_15 : decode cX9_holdsKey 15 = .ok (.ifCond .eq 20, 3) := by decide +kernel
theorem dX9_holdsKey_18 : decode cX9_holdsKey 18 = .ok (.aload_n 0, 1) := by decide +kernel
theorem dX9_holdsKey_19 : decode cX9_holdsKey 19 = .ok (.getfield 63, 3) := by decide +kernel
theorem dX9_holdsKey_22 : decode cX9_holdsKey 22 = .ok (.getfield 84, 3) := by decide +kernel
theorem dX9_holdsKey_25 : decode cX9_holdsKey 25 = .ok (.iload_n 2, 1) := by decide +kernel
theorem dX9_holdsKey_26 : decode cX9_holdsKey 26 = .ok (.iaload, 1) := by decide +kernel
theorem dX9_holdsKey_27 : decode cX9_holdsKey 27 = .ok (.iload_n 1, 1) := by decide +kernel
theorem dX9_holdsKey_28 : decode cX9_holdsKey 28 = .ok (.if_icmp .ne 7, 3) := by decide +kernel
theorem dX9_holdsKey_31 : decode cX9_holdsKey 31 = .ok (.iconst 1, 1) := by decide +kernel
theorem dX9_holdsKey_32 : decode cX9_holdsKey 32 = .ok (.goto 4, 3) := by decide +kernel
theorem dX9_holdsKey_35 : decode cX9_holdsKey 35 = .ok (.iconst 0, 1) := by decide +kernel
theorem dX9_holdsKey_36 : decode cX9_holdsKey 36 = .ok (.ireturn, 1) := by decide +kernel
theorem dX9_isBarred_0 : decode cX9_isBarred 0 = .ok (.iconst 0, 1) := by decide +kernel
theorem dX9_isBarred_1 : decode cX9_isBarred 1 = .ok (.istore 6, 2) := by decide +kernel
theorem dX9_isBarred_3 : decode cX9_isBarred 3 = .ok (.iload 6, 2) := by decide +kernel
theorem dX9_isBarred_5 : decode cX9_isBarred 5 = .ok (.aload_n 0, 1) := by decide +kernel
theorem dX9_isBarred_6 : decode cX9_isBarred 6 = .ok (.getfield 9, 3) := by decide +kernel
theorem dX9_isBarred_9 : decode cX9_isBarred 9 = .ok (.bipush 7, 2) := by decide +kernel
theorem dX9_isBarred_11 : decode cX9_isBarred 11 = .ok (.iaload, 1) := by decide +kernel
theorem dX9_isBarred_12 : decode cX9_isBarred 12 = .ok (.if_icmp .ge 52, 3) := by decide +kernel
theorem dX9_isBarred_15 : decode cX9_isBarred 15 = .ok (.aload_n 0, 1) := by decide +kernel
theorem dX9_isBarred_16 : decode cX9_isBarred 16 = .ok (.getfield 44, 3) := by decide +kernel
theorem dX9_isBarred_19 : decode cX9_isBarred 19 = .ok (.iload 6, 2) := by decide +kernel
theorem dX9_isBarred_21 : decode cX9_isBarred 21 = .ok (.iaload, 1) := by decide +kernel
theorem dX9_isBarred_22 : decode cX9_isBarred 22 = .ok (.iload_n 1, 1) := by decide +kernel
theorem dX9_isBarred_23 : decode cX9_isBarred 23 = .ok (.if_icmp .ne 35, 3) := by decide +kernel
theorem dX9_isBarred_26 : decode cX9_isBarred 26 = .ok (.aload_n 0, 1) := by decide +kernel
theorem dX9_isBarred_27 : decode cX9_isBarred 27 = .ok (.getfield 56, 3) := by decide +kernel
theorem dX9_isBarred_30 : decode cX9_isBarred 30 = .ok (.aload_n 0, 1) := by decide +kernel
theorem dX9_isBarred_31 : decode cX9_isBarred 31 = .ok (.getfield 47, 3) := by decide +kernel
theorem dX9_isBarred_34 : decode cX9_isBarred 34 = .ok (.iload 6, 2) := by decide +kernel
theorem dX9_isBarred_36 : decode cX9_isBarred 36 = .ok (.iaload, 1) := by decide +kernel
theorem dX9_isBarred_37 : decode cX9_isBarred 37 = .ok (.aload_n 0, 1) := by decide +kernel
theorem dX9_isBarred_38 : decode cX9_isBarred 38 = .ok (.getfield 50, 3) := by decide +kernel
theorem dX9_isBarred_41 : decode cX9_isBarred 41 = .ok (.iload 6, 2) := by decide +kernel
theorem dX9_isBarred_43 : decode cX9_isBarred 43 = .ok (.iaload, 1) := by decide +kernel
theorem dX9_isBarred_44 : decode cX9_isBarred 44 = .ok (.iload_n 2, 1) := by decide +kernel
theorem dX9_isBarred_45 : decode cX9_isBarred 45 = .ok (.iload_n 3, 1) := by decide +kernel
theorem dX9_isBarred_46 : decode cX9_isBarred 46 = .ok (.iload 4, 2) := by decide +kernel
theorem dX9_isBarred_48 : decode cX9_isBarred 48 = .ok (.iload 5, 2) := by decide +kernel
theorem dX9_isBarred_50 : decode cX9_isBarred 50 = .ok (.invokevirtual 112, 3) := by decide +kernel
theorem dX9_isBarred_53 : decode cX9_isBarred 53 = .ok (.ifCond .eq 5, 3) := by decide +kernel
theorem dX9_isBarred_56 : decode cX9_isBarred 56 = .ok (.iconst 1, 1) := by decide +kernel
theorem dX9_isBarred_57 : decode cX9_isBarred 57 = .ok (.ireturn, 1) := by decide +kernel
theorem dX9_isBarred_58 : decode cX9_isBarred 58 = .ok (.iinc 6 1, 3) := by decide +kernel
theorem dX9_isBarred_61 : decode cX9_isBarred 61 = .ok (.goto (-58), 3) := by decide +kernel
theorem dX9_isBarred_64 : decode cX9_isBarred 64 = .ok (.iconst 0, 1) := by decide +kernel
theorem dX9_isBarred_65 : decode cX9_isBarred 65 = .ok (.ireturn, 1) := by decide +kernel
