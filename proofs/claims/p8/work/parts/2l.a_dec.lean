theorem dX5_readTown_0 : decode cX5_readTown 0 = .ok (.aload_n 1, 1) := by decide +kernel
theorem dX5_readTown_1 : decode cX5_readTown 1 = .ok (.invokevirtual 46, 3) := by decide +kernel
theorem dX5_readTown_4 : decode cX5_readTown 4 = .ok (.aload_n 0, 1) := by decide +kernel
theorem dX5_readTown_5 : decode cX5_readTown 5 = .ok (.getfield 30, 3) := by decide +kernel
theorem dX5_readTown_8 : decode cX5_readTown 8 = .ok (.invokevirtual 51, 3) := by decide +kernel
theorem dX5_readTown_11 : decode cX5_readTown 11 = .ok (.aload_n 0, 1) := by decide +kernel
theorem dX5_readTown_12 : decode cX5_readTown 12 = .ok (.iconst 0, 1) := by decide +kernel
theorem dX5_readTown_13 : decode cX5_readTown 13 = .ok (.putfield 15, 3) := by decide +kernel
theorem dX5_readTown_16 : decode cX5_readTown 16 = .ok (.aload_n 0, 1) := by decide +kernel
theorem dX5_readTown_17 : decode cX5_readTown 17 = .ok (.iconst (-1), 1) := by decide +kernel
theorem dX5_readTown_18 : decode cX5_readTown 18 = .ok (.putfield 19, 3) := by decide +kernel
theorem dX5_readTown_21 : decode cX5_readTown 21 = .ok (.iconst 0, 1) := by decide +kernel
theorem dX5_readTown_22 : decode cX5_readTown 22 = .ok (.istore_n 2, 1) := by decide +kernel
theorem dX5_readTown_23 : decode cX5_readTown 23 = .ok (.iload_n 2, 1) := by decide +kernel
theorem dX5_readTown_24 : decode cX5_readTown 24 = .ok (.sipush 1600, 3) := by decide +kernel
theorem dX5_readTown_27 : decode cX5_readTown 27 = .ok (.if_icmp .gt 225, 3) := by decide +kernel
theorem dX5_readTown_30 : decode cX5_readTown 30 = .ok (.aload_n 0, 1) := by decide +kernel
theorem dX5_readTown_31 : decode cX5_readTown 31 = .ok (.getfield 30, 3) := by decide +kernel
theorem dX5_readTown_34 : decode cX5_readTown 34 = .ok (.invokevirtual 54, 3) := by decide +kernel
theorem dX5_readTown_37 : decode cX5_readTown 37 = .ok (.aload_n 0, 1) := by decide +kernel
theorem dX5_readTown_38 : decode cX5_readTown 38 = .ok (.getfield 30, 3) := by decide +kernel
theorem dX5_readTown_41 : decode cX5_readTown 41 = .ok (.getfield 57, 3) := by decide +kernel
theorem dX5_readTown_44 : decode cX5_readTown 44 = .ok (.ifCond .ne 5, 3) := by decide +kernel
theorem dX5_readTown_47 : decode cX5_readTown 47 = .ok (.iload_n 2, 1) := by decide +kernel
theorem dX5_readTown_48 : decode cX5_readTown 48 = .ok (.ireturn, 1) := by decide +kernel
theorem dX5_readTown_49 : decode cX5_readTown 49 = .ok (.aload_n 0, 1) := by decide +kernel
theorem dX5_readTown_50 : decode cX5_readTown 50 = .ok (.aload_n 1, 1) := by decide +kernel
theorem dX5_readTown_51 : decode cX5_readTown 51 = .ok (.invokevirtual 60, 3) := by decide +kernel
theorem dX5_readTown_54 : decode cX5_readTown 54 = .ok (.tableswitch 175 0 11 #[62, 76, 85, 94, 103, 112, 121, 130, 139, 148, 157, 166], 62) := by decide +kernel
theorem dX5_readTown_116 : decode cX5_readTown 116 = .ok (.aload_n 1, 1) := by decide +kernel
theorem dX5_readTown_117 : decode cX5_readTown 117 = .ok (.iconst 0, 1) := by decide +kernel
theorem dX5_readTown_118 : decode cX5_readTown 118 = .ok (.aload_n 0, 1) := by decide +kernel
theorem dX5_readTown_119 : decode cX5_readTown 119 = .ok (.aload_n 1, 1) := by decide +kernel
theorem dX5_readTown_120 : decode cX5_readTown 120 = .ok (.invokevirtual 64, 3) := by decide +kernel
theorem dX5_readTown_123 : decode cX5_readTown 123 = .ok (.invokevirtual 67, 3) := by decide +kernel
theorem dX5_readTown_126 : decode cX5_readTown 126 = .ok (.istore_n 3, 1) := by decide +kernel
theorem dX5_readTown_127 : decode cX5_readTown 127 = .ok (.goto 104, 3) := by decide +kernel
theorem dX5_readTown_130 : decode cX5_readTown 130 = .ok (.aload_n 0, 1) := by decide +kernel
theorem dX5_readTown_131 : decode cX5_readTown 131 = .ok (.aload_n 1, 1) := by decide +kernel
theorem dX5_readTown_132 : decode cX5_readTown 132 = .ok (.invokevirtual 71, 3) := by decide +kernel
theorem dX5_readTown_135 : decode cX5_readTown 135 = .ok (.istore_n 3, 1) := by decide +kernel
theorem dX5_readTown_136 : decode cX5_readTown 136 = .ok (.goto 95, 3) := by decide +kernel
theorem dX5_readTown_139 : decode cX5_readTown 139 = .ok (.aload_n 0, 1) := by decide +kernel
theorem dX5_readTown_140 : decode cX5_readTown 140 = .ok (.aload_n 1, 1) := by decide +kernel
theorem dX5_readTown_141 : decode cX5_readTown 141 = .ok (.invokevirtual 75, 3) := by decide +kernel
theorem dX5_readTown_144 : decode cX5_readTown 144 = .ok (.istore_n 3, 1) := by decide +kernel
theorem dX5_readTown_145 : decode cX5_readTown 145 = .ok (.goto 86, 3) := by decide +kernel
theorem dX5_readTown_148 : decode cX5_readTown 148 = .ok (.aload_n 0, 1) := by decide +kernel
theorem dX5_readTown_149 : decode cX5_readTown 149 = .ok (.aload_n 1, 1) := by decide +kernel
theorem dX5_readTown_150 : decode cX5_readTown 150 = .ok (.invokevirtual 78, 3) := by decide +kernel
theorem dX5_readTown_153 : decode cX5_readTown 153 = .ok (.istore_n 3, 1) := by decide +kernel
theorem dX5_readTown_154 : decode cX5_readTown 154 = .ok (.goto 77, 3) := by decide +kernel
theorem dX5_readTown_157 : decode cX5_readTown 157 = .ok (.aload_n 0, 1) := by decide +kernel
theorem dX5_readTown_158 : decode cX5_readTown 158 = .ok (.aload_n 1, 1) := by decide +kernel
theorem dX5_readTown_159 : decode cX5_readTown 159 = .ok (.invokevirtual 81, 3) := by decide +kernel
theorem dX5_readTown_162 : decode cX5_readTown 162 = .ok (.istore_n 3, 1) := by decide +kernel
theorem dX5_readTown_163 : decode cX5_readTown 163 = .ok (.goto 68, 3) := by decide +kernel
theorem dX5_readTown_166 : decode cX5_readTown 166 = .ok (.aload_n 0, 1) := by decide +kernel
theorem dX5_readTown_167 : decode cX5_readTown 167 = .ok (.aload_n 1, 1) := by decide +kernel
theorem dX5_readTown_168 : decode cX5_readTown 168 = .ok (.invokevirtual 84, 3) := by decide +kernel
theorem dX5_readTown_171 : decode cX5_readTown 171 = .ok (.istore_n 3, 1) := by decide +kernel
theorem dX5_readTown_172 : decode cX5_readTown 172 = .ok (.goto 59, 3) := by decide +kernel
theorem dX5_readTown_175 : decode cX5_readTown 175 = .ok (.aload_n 0, 1) := by decide +kernel
theorem dX5_readTown_176 : decode cX5_readTown 176 = .ok (.aload_n 1, 1) := by decide +kernel
theorem dX5_readTown_177 : decode cX5_readTown 177 = .ok (.invokevirtual 87, 3) := by decide +kernel
theorem dX5_readTown_180 : decode cX5_readTown 180 = .ok (.istore_n 3, 1) := by decide +kernel
theorem dX5_readTown_181 : decode cX5_readTown 181 = .ok (.goto 50, 3) := by decide +kernel
theorem dX5_readTown_184 : decode cX5_readTown 184 = .ok (.aload_n 0, 1) := by decide +kernel
theorem dX5_readTown_185 : decode cX5_readTown 185 = .ok (.aload_n 1, 1) := by decide +kernel
theorem dX5_readTown_186 : decode cX5_readTown 186 = .ok (.invokevirtual 90, 3) := by decide +kernel
theorem dX5_readTown_189 : decode cX5_readTown 189 = .ok (.istore_n 3, 1) := by decide +kernel
theorem dX5_readTown_190 : decode cX5_readTown 190 = .ok (.goto 41, 3) := by decide +kernel
theorem dX5_readTown_193 : decode cX5_readTown 193 = .ok (.aload_n 0, 1) := by decide +kernel
theorem dX5_readTown_194 : decode cX5_readTown 194 = .ok (.aload_n 1, 1) := by decide +kernel
theorem dX5_readTown_195 : decode cX5_readTown 195 = .ok (.invokevirtual 93, 3) := by decide +kernel
theorem dX5_readTown_198 : decode cX5_readTown 198 = .ok (.istore_n 3, 1) := by decide +kernel
theorem dX5_readTown_199 : decode cX5_readTown 199 = .ok (.goto 32, 3) := by decide +kernel
theorem dX5_readTown_202 : decode cX5_readTown 202 = .ok (.aload_n 0, 1) := by decide +kernel
theorem dX5_readTown_203 : decode cX5_readTown 203 = .ok (.aload_n 1, 1) := by decide +kernel
theorem dX5_readTown_204 : decode cX5_readTown 204 = .ok (.invokevirtual 96, 3) := by decide +kernel
theorem dX5_readTown_207 : decode cX5_readTown 207 = .ok (.istore_n 3, 1) := by decide +kernel
theorem dX5_readTown_208 : decode cX5_readTown 208 = .ok (.goto 23, 3) := by decide +kernel
theorem dX5_readTown_211 : decode cX5_readTown 211 = .ok (.aload_n 0, 1) := by decide +kernel
theorem dX5_readTown_212 : decode cX5_readTown 212 = .ok (.aload_n 1, 1) := by decide +kernel
theorem dX5_readTown_213 : decode cX5_readTown 213 = .ok (.invokevirtual 99, 3) := by decide +kernel
theorem dX5_readTown_216 : decode cX5_readTown 216 = .ok (.istore_n 3, 1) := by decide +kernel
theorem dX5_readTown_217 : decode cX5_readTown 217 = .ok (.goto 14, 3) := by decide +kernel
theorem dX5_readTown_220 : decode cX5_readTown 220 = .ok (.aload_n 0, 1) := by decide +kernel
theorem dX5_readTown_221 : decode cX5_readTown 221 = .ok (.aload_n 1, 1) := by decide +kernel
theorem dX5_readTown_222 : decode cX5_readTown 222 = .ok (.invokevirtual 102, 3) := by decide +kernel
theorem dX5_readTown_225 : decode cX5_readTown 225 = .ok (.istore_n 3, 1) := by decide +kernel
theorem dX5_readTown_226 : decode cX5_readTown 226 = .ok (.goto 5, 3) := by decide +kernel
theorem dX5_readTown_229 : decode cX5_readTown 229 = .ok (.iconst 0, 1) := by decide +kernel
theorem dX5_readTown_230 : decode cX5_readTown 230 = .ok (.istore_n 3, 1) := by decide +kernel
theorem dX5_readTown_231 : decode cX5_readTown 231 = .ok (.iload_n 3, 1) := by decide +kernel
theorem dX5_readTown_232 : decode cX5_readTown 232 = .ok (.ifCond .eq 12, 3) := by decide +kernel
theorem dX5_readTown_235 : decode cX5_readTown 235 = .ok (.aload_n 0, 1) := by decide +kernel
theorem dX5_readTown_236 : decode cX5_readTown 236 = .ok (.bipush 59, 2) := by decide +kernel
theorem dX5_readTown_238 : decode cX5_readTown 238 = .ok (.invokevirtual 105, 3) := by decide +kernel
theorem dX5_readTown_241 : decode cX5_readTown 241 = .ok (.ifCond .ne 5, 3) := by decide +kernel
theorem dX5_readTown_244 : decode cX5_readTown 244 = .ok (.iconst (-1), 1) := by decide +kernel
theorem dX5_readTown_245 : decode cX5_readTown 245 = .ok (.ireturn, 1) := by decide +kernel
theorem dX5_readTown_246 : decode cX5_readTown 246 = .ok (.iinc 2 1, 3) := by decide +kernel
theorem dX5_readTown_249 : decode cX5_readTown 249 = .ok (.goto (-226), 3) := by decide +kernel
theorem dX5_readTown_252 : decode cX5_readTown 252 = .ok (.iconst (-1), 1) := by decide +kernel
theorem dX5_readTown_253 : decode cX5_readTown 253 = .ok (.ireturn, 1) := by decide +kernel
theorem dX5_readDoor_0 : decode cX5_readDoor 0 = .ok (.aload_n 0, 1) := by decide +kernel
theorem dX5_readDoor_1 : decode cX5_readDoor 1 = .ok (.aload_n 1, 1) := by decide +kernel
theorem dX5_readDoor_2 : decode cX5_readDoor 2 = .ok (.invokevirtual 64, 3) := by decide +kernel
theorem dX5_readDoor_5 : decode cX5_readDoor 5 = .ok (.istore_n 2, 1) := by decide +kernel
theorem dX5_readDoor_6 : decode cX5_readDoor 6 = .ok (.iload_n 2, 1) := by decide +kernel
theorem dX5_readDoor_7 : decode cX5_readDoor 7 = .ok (.iconst (-1), 1) := by decide +kernel
theorem dX5_readDoor_8 : decode cX5_readDoor 8 = .ok (.if_icmp .ne 7, 3) := by decide +kernel
theorem dX5_readDoor_11 : decode cX5_readDoor 11 = .ok (.iconst (-1), 1) := by decide +kernel
theorem dX5_readDoor_12 : decode cX5_readDoor 12 = .ok (.goto 9, 3) := by decide +kernel
theorem dX5_readDoor_15 : decode cX5_readDoor 15 = .ok (.aload_n 0, 1) := by decide +kernel
theorem dX5_readDoor_16 : decode cX5_readDoor 16 = .ok (.aload_n 1, 1) := by decide +kernel
theorem dX5_readDoor_17 : decode cX5_readDoor 17 = .ok (.iconst 0, 1) := by decide +kernel
theorem dX5_readDoor_18 : decode cX5_readDoor 18 = .ok (.invokevirtual 128, 3) := by decide +kernel
theorem dX5_readDoor_21 : decode cX5_readDoor 21 = .ok (.istore_n 3, 1) := by decide +kernel
theorem dX5_readDoor_22 : decode cX5_readDoor 22 = .ok (.iload_n 3, 1) := by decide +kernel
theorem dX5_readDoor_23 : decode cX5_readDoor 23 = .ok (.iconst (-1), 1) := by decide +kernel
theorem dX5_readDoor_24 : decode cX5_readDoor 24 = .ok (.if_icmp .ne 7, 3) := by decide +kernel
theorem dX5_readDoor_27 : decode cX5_readDoor 27 = .ok (.iconst (-1), 1) := by decide +kernel
theorem dX5_readDoor_28 : decode cX5_readDoor 28 = .ok (.goto 9, 3) := by decide +kernel
theorem dX5_readDoor_31 : decode cX5_readDoor 31 = .ok (.aload_n 0, 1) := by decide +kernel
theorem dX5_readDoor_32 : decode cX5_readDoor 32 = .ok (.aload_n 1, 1) := by decide +kernel
theorem dX5_readDoor_33 : decode cX5_readDoor 33 = .ok (.iconst 0, 1) := by decide +kernel
theorem dX5_readDoor_34 : decode cX5_readDoor 34 = .ok (.invokevirtual 128, 3) := by decide +kernel
theorem dX5_readDoor_37 : decode cX5_readDoor 37 = .ok (.istore 4, 2) := by decide +kernel
theorem dX5_readDoor_39 : decode cX5_readDoor 39 = .ok (.iload 4, 2) := by decide +kernel
theorem dX5_readDoor_41 : decode cX5_readDoor 41 = .ok (.iconst (-1), 1) := by decide +kernel
theorem dX5_readDoor_42 : decode cX5_readDoor 42 = .ok (.if_icmp .ne 5, 3) := by decide +kernel
theorem dX5_readDoor_45 : decode cX5_readDoor 45 = .ok (.iconst 0, 1) := by decide +kernel
theorem dX5_readDoor_46 : decode cX5_readDoor 46 = .ok (.ireturn, 1) := by decide +kernel
theorem dX5_readDoor_47 : decode cX5_readDoor 47 = .ok (.iload 4, 2) := by decide +kernel
theorem dX5_readDoor_49 : decode cX5_readDoor 49 = .ok (.iload_n 3, 1) := by decide +kernel
theorem dX5_readDoor_50 : decode cX5_readDoor 50 = .ok (.if_icmp .ne 9, 3) := by decide +kernel
theorem dX5_readDoor_53 : decode cX5_readDoor 53 = .ok (.aload_n 0, 1) := by decide +kernel
theorem dX5_readDoor_54 : decode cX5_readDoor 54 = .ok (.iconst 3, 1) := by decide +kernel
theorem dX5_readDoor_55 : decode cX5_readDoor 55 = .ok (.invokevirtual 132, 3) := by decide +kernel
theorem dX5_readDoor_58 : decode cX5_readDoor 58 = .ok (.ireturn, 1) := by decide +kernel
theorem dX5_readDoor_59 : decode cX5_readDoor 59 = .ok (.aload_n 0, 1) := by decide +kernel
theorem dX5_readDoor_60 : decode cX5_readDoor 60 = .ok (.iconst 1, 1) := by decide +kernel
theorem dX5_readDoor_61 : decode cX5_readDoor 61 = .ok (.bipush 99, 2) := by decide +kernel
theorem dX5_readDoor_63 : decode cX5_readDoor 63 = .ok (.invokevirtual 136, 3) := by decide +kernel
theorem dX5_readDoor_66 : decode cX5_readDoor 66 = .ok (.istore 5, 2) := by decide +kernel
theorem dX5_readDoor_68 : decode cX5_readDoor 68 = .ok (.iload 5, 2) := by decide +kernel
theorem dX5_readDoor_70 : decode cX5_readDoor 70 = .ok (.iconst (-1), 1) := by decide +kernel
theorem dX5_readDoor_71 : decode cX5_readDoor 71 = .ok (.if_icmp .eq 20, 3) := by decide +kernel
theorem dX5_readDoor_74 : decode cX5_readDoor 74 = .ok (.aload_n 1, 1) := by decide +kernel
theorem dX5_readDoor_75 : decode cX5_readDoor 75 = .ok (.iload_n 2, 1) := by decide +kernel
theorem dX5_readDoor_76 : decode cX5_readDoor 76 = .ok (.iload_n 3, 1) := by decide +kernel
theorem dX5_readDoor_77 : decode cX5_readDoor 77 = .ok (.iload 4, 2) := by decide +kernel
theorem dX5_readDoor_79 : decode cX5_readDoor 79 = .ok (.iload 5, 2) := by decide +kernel
theorem dX5_readDoor_81 : decode cX5_readDoor 81 = .ok (.invokevirtual 140, 3) := by decide +kernel
theorem dX5_readDoor_84 : decode cX5_readDoor 84 = .ok (.ifCond .eq 7, 3) := by decide +kernel
theorem dX5_readDoor_87 : decode cX5_readDoor 87 = .ok (.iconst 1, 1) := by decide +kernel
theorem dX5_readDoor_88 : decode cX5_readDoor 88 = .ok (.goto 4, 3) := by decide +kernel
theorem dX5_readDoor_91 : decode cX5_readDoor 91 = .ok (.iconst 0, 1) := by decide +kernel
theorem dX5_readDoor_92 : decode cX5_readDoor 92 = .ok (.ireturn, 1) := by decide +kernel
theorem dX5_readBox_0 : decode cX5_readBox 0 = .ok (.aload_n 0, 1) := by decide +kernel
theorem dX5_readBox_1 : decode cX5_readBox 1 = .ok (.aload_n 1, 1) := by decide +kernel
theorem dX5_readBox_2 : decode cX5_readBox 2 = .ok (.invokevirtual 64, 3) := by decide +kernel
theorem dX5_readBox_5 : decode cX5_readBox 5 = .ok (.istore_n 2, 1) := by decide +kernel
theorem dX5_readBox_6 : decode cX5_readBox 6 = .ok (.iload_n 2, 1) := by decide +kernel
theorem dX5_readBox_7 : decode cX5_readBox 7 = .ok (.iconst (-1), 1) := by decide +kernel
theorem dX5_readBox_8 : decode cX5_readBox 8 = .ok (.if_icmp .eq 12, 3) := by decide +kernel
theorem dX5_readBox_11 : decode cX5_readBox 11 = .ok (.aload_n 0, 1) := by decide +kernel
theorem dX5_readBox_12 : decode cX5_readBox 12 = .ok (.bipush 12, 2) := by decide +kernel
theorem dX5_readBox_14 : decode cX5_readBox 14 = .ok (.invokevirtual 144, 3) := by decide +kernel
theorem dX5_readBox_17 : decode cX5_readBox 17 = .ok (.ifCond .ne 5, 3) := by decide +kernel
theorem dX5_readBox_20 : decode cX5_readBox 20 = .ok (.iconst 0, 1) := by decide +kernel
theorem dX5_readBox_21 : decode cX5_readBox 21 = .ok (.ireturn, 1) := by decide +kernel
theorem dX5_readBox_22 : decode cX5_readBox 22 = .ok (.aload_n 0, 1) := by decide +kernel
theorem dX5_readBox_23 : decode cX5_readBox 23 = .ok (.aload_n 1, 1) := by decide +kernel
theorem dX5_readBox_24 : decode cX5_readBox 24 = .ok (.iconst 0, 1) := by decide +kernel
theorem dX5_readBox_25 : decode cX5_readBox 25 = .ok (.invokevirtual 128, 3) := by decide +kernel
theorem dX5_readBox_28 : decode cX5_readBox 28 = .ok (.istore_n 3, 1) := by decide +kernel
theorem dX5_readBox_29 : decode cX5_readBox 29 = .ok (.iload_n 3, 1) := by decide +kernel
theorem dX5_readBox_30 : decode cX5_readBox 30 = .ok (.iconst (-1), 1) := by decide +kernel
theorem dX5_readBox_31 : decode cX5_readBox 31 = .ok (.if_icmp .eq 18, 3) := by decide +kernel
theorem dX5_readBox_34 : decode cX5_readBox 34 = .ok (.aload_n 1, 1) := by decide +kernel
theorem dX5_readBox_35 : decode cX5_readBox 35 = .ok (.iload_n 2, 1) := by decide +kernel
theorem dX5_readBox_36 : decode cX5_readBox 36 = .ok (.iload_n 3, 1) := by decide +kernel
theorem dX5_readBox_37 : decode cX5_readBox 37 = .ok (.iload_n 3, 1) := by decide +kernel
theorem dX5_readBox_38 : decode cX5_readBox 38 = .ok (.iconst 0, 1) := by decide +kernel
theorem dX5_readBox_39 : decode cX5_readBox 39 = .ok (.invokevirtual 140, 3) := by decide +kernel
theorem dX5_readBox_42 : decode cX5_readBox 42 = .ok (.ifCond .eq 7, 3) := by decide +kernel
theorem dX5_readBox_45 : decode cX5_readBox 45 = .ok (.iconst 1, 1) := by decide +kernel
theorem dX5_readBox_46 : decode cX5_readBox 46 = .ok (.goto 4, 3) := by decide +kernel
theorem dX5_readBox_49 : decode cX5_readBox 49 = .ok (.iconst 0, 1) := by decide +kernel
theorem dX5_readBox_50 : decode cX5_readBox 50 = .ok (.ireturn, 1) := by decide +kernel
theorem dX5_readKey_0 : decode cX5_readKey 0 = .ok (.aload_n 0, 1) := by decide +kernel
theorem dX5_readKey_1 : decode cX5_readKey 1 = .ok (.aload_n 1, 1) := by decide +kernel
theorem dX5_readKey_2 : decode cX5_readKey 2 = .ok (.invokevirtual 64, 3) := by decide +kernel
theorem dX5_readKey_5 : decode cX5_readKey 5 = .ok (.istore_n 2, 1) := by decide +kernel
theorem dX5_readKey_6 : decode cX5_readKey 6 = .ok (.iload_n 2, 1) := by decide +kernel
theorem dX5_readKey_7 : decode cX5_readKey 7 = .ok (.iconst (-1), 1) := by decide +kernel
theorem dX5_readKey_8 : decode cX5_readKey 8 = .ok (.if_icmp .eq 12, 3) := by decide +kernel
theorem dX5_readKey_11 : decode cX5_readKey 11 = .ok (.aload_n 0, 1) := by decide +kernel
theorem dX5_readKey_12 : decode cX5_readKey 12 = .ok (.bipush 13, 2) := by decide +kernel
theorem dX5_readKey_14 : decode cX5_readKey 14 = .ok (.invokevirtual 144, 3) := by decide +kernel
theorem dX5_readKey_17 : decode cX5_readKey 17 = .ok (.ifCond .ne 5, 3) := by decide +kernel
theorem dX5_readKey_20 : decode cX5_readKey 20 = .ok (.iconst 0, 1) := by decide +kernel
theorem dX5_readKey_21 : decode cX5_readKey 21 = .ok (.ireturn, 1) := by decide +kernel
theorem dX5_readKey_22 : decode cX5_readKey 22 = .ok (.aload_n 0, 1) := by decide +kernel
theorem dX5_readKey_23 : decode cX5_readKey 23 = .ok (.aload_n 1, 1) := by decide +kernel
theorem dX5_readKey_24 : decode cX5_readKey 24 = .ok (.invokevirtual 147, 3) := by decide +kernel
theorem dX5_readKey_27 : decode cX5_readKey 27 = .ok (.istore_n 3, 1) := by decide +kernel
theorem dX5_readKey_28 : decode cX5_readKey 28 = .ok (.iload_n 3, 1) := by decide +kernel
theorem dX5_readKey_29 : decode cX5_readKey 29 = .ok (.iconst (-1), 1) := by decide +kernel
theorem dX5_readKey_30 : decode cX5_readKey 30 = .ok (.if_icmp .eq 16, 3) := by decide +kernel
theorem dX5_readKey_33 : decode cX5_readKey 33 = .ok (.aload_n 1, 1) := by decide +kernel
theorem dX5_readKey_34 : decode cX5_readKey 34 = .ok (.iload_n 2, 1) := by decide +kernel
theorem dX5_readKey_35 : decode cX5_readKey 35 = .ok (.iload_n 3, 1) := by decide +kernel
theorem dX5_readKey_36 : decode cX5_readKey 36 = .ok (.invokevirtual 150, 3) := by decide +kernel
theorem dX5_readKey_39 : decode cX5_readKey 39 = .ok (.ifCond .eq 7, 3) := by decide +kernel
theorem dX5_readKey_42 : decode cX5_readKey 42 = .ok (.iconst 1, 1) := by decide +kernel
theorem dX5_readKey_43 : decode cX5_readKey 43 = .ok (.goto 4, 3) := by decide +kernel
theorem dX5_readKey_46 : decode cX5_readKey 46 = .ok (.iconst 0, 1) := by decide +kernel
theorem dX5_readKey_47 : decode cX5_readKey 47 = .ok (.ireturn, 1) := by decide +kernel
theorem dX5_readPerson_0 : decode cX5_readPerson 0 = .ok (.aload_n 0, 1) := by decide +kernel
theorem dX5_readPerson_1 : decode cX5_readPerson 1 = .ok (.aload_n 1, 1) := by decide +kernel
theorem dX5_readPerson_2 : decode cX5_readPerson 2 = .ok (.invokevirtual 64, 3) := by decide +kernel
theorem dX5_readPerson_5 : decode cX5_readPerson 5 = .ok (.istore_n 2, 1) := by decide +kernel
theorem dX5_readPerson_6 : decode cX5_readPerson 6 = .ok (.iload_n 2, 1) := by decide +kernel
theorem dX5_readPerson_7 : decode cX5_readPerson 7 = .ok (.iconst (-1), 1) := by decide +kernel
theorem dX5_readPerson_8 : decode cX5_readPerson 8 = .ok (.if_icmp .eq 12, 3) := by decide +kernel
theorem dX5_readPerson_11 : decode cX5_readPerson 11 = .ok (.aload_n 0, 1) := by decide +kernel
theorem dX5_readPerson_12 : decode cX5_readPerson 12 = .ok (.bipush 12, 2) := by decide +kernel
theorem dX5_readPerson_14 : decode cX5_readPerson 14 = .ok (.invokevirtual 144, 3) := by decide +kernel
theorem dX5_readPerson_17 : decode cX5_readPerson 17 = .ok (.ifCond .ne 5, 3) := by decide +kernel
theorem dX5_readPerson_20 : decode cX5_readPerson 20 = .ok (.iconst 0, 1) := by decide +kernel
theorem dX5_readPerson_21 : decode cX5_readPerson 21 = .ok (.ireturn, 1) := by decide +kernel
theorem dX5_readPerson_22 : decode cX5_readPerson 22 = .ok (.aload_n 0, 1) := by decide +kernel
theorem dX5_readPerson_23 : decode cX5_readPerson 23 = .ok (.aload_n 1, 1) := by decide +kernel
theorem dX5_readPerson_24 : decode cX5_readPerson 24 = .ok (.iconst 0, 1) := by decide +kernel
theorem dX5_readPerson_25 : decode cX5_readPerson 25 = .ok (.invokevirtual 128, 3) := by decide +kernel
theorem dX5_readPerson_28 : decode cX5_readPerson 28 = .ok (.istore_n 3, 1) := by decide +kernel
theorem dX5_readPerson_29 : decode cX5_readPerson 29 = .ok (.iload_n 3, 1) := by decide +kernel
theorem dX5_readPerson_30 : decode cX5_readPerson 30 = .ok (.iconst (-1), 1) := by decide +kernel
theorem dX5_readPerson_31 : decode cX5_readPerson 31 = .ok (.if_icmp .eq 16, 3) := by decide +kernel
theorem dX5_readPerson_34 : decode cX5_readPerson 34 = .ok (.aload_n 1, 1) := by decide +kernel
theorem dX5_readPerson_35 : decode cX5_readPerson 35 = .ok (.iload_n 2, 1) := by decide +kernel
theorem dX5_readPerson_36 : decode cX5_readPerson 36 = .ok (.iload_n 3, 1) := by decide +kernel
theorem dX5_readPerson_37 : decode cX5_readPerson 37 = .ok (.invokevirtual 153, 3) := by decide +kernel
theorem dX5_readPerson_40 : decode cX5_readPerson 40 = .ok (.ifCond .eq 7, 3) := by decide +kernel
theorem dX5_readPerson_43 : decode cX5_readPerson 43 = .ok (.iconst 1, 1) := by decide +kernel
theorem dX5_readPerson_44 : decode cX5_readPerson 44 = .ok (.goto 4, 3) := by decide +kernel
theorem dX5_readPerson_47 : decode cX5_readPerson 47 = .ok (.iconst 0, 1) := by decide +kernel
theorem dX5_readPerson_48 : decode cX5_readPerson 48 = .ok (.ireturn, 1) := by decide +kernel
theorem dX5_readThing_0 : decode cX5_readThing 0 = .ok (.aload_n 0, 1) := by decide +kernel
theorem dX5_readThing_1 : decode cX5_readThing 1 = .ok (.aload_n 1, 1) := by decide +kernel
theorem dX5_readThing_2 : decode cX5_readThing 2 = .ok (.invokevirtual 64, 3) := by decide +kernel
theorem dX5_readThing_5 : decode cX5_readThing 5 = .ok (.istore_n 2, 1) := by decide +kernel
theorem dX5_readThing_6 : decode cX5_readThing 6 = .ok (.iload_n 2, 1) := by decide +kernel
theorem dX5_readThing_7 : decode cX5_readThing 7 = .ok (.iconst (-1), 1) := by decide +kernel
theorem dX5_readThing_8 : decode cX5_readThing 8 = .ok (.if_icmp .eq 12, 3) := by decide +kernel
theorem dX5_readThing_11 : decode cX5_readThing 11 = .ok (.aload_n 0, 1) := by decide +kernel
theorem dX5_readThing_12 : decode cX5_readThing 12 = .ok (.bipush 13, 2) := by decide +kernel
theorem dX5_readThing_14 : decode cX5_readThing 14 = .ok (.invokevirtual 144, 3) := by decide +kernel
theorem dX5_readThing_17 : decode cX5_readThing 17 = .ok (.ifCond .ne 5, 3) := by decide +kernel
theorem dX5_readThing_20 : decode cX5_readThing 20 = .ok (.iconst 0, 1) := by decide +kernel
theorem dX5_readThing_21 : decode cX5_readThing 21 = .ok (.ireturn, 1) := by decide +kernel
theorem dX5_readThing_22 : decode cX5_readThing 22 = .ok (.aload_n 0, 1) := by decide +kernel
theorem dX5_readThing_23 : decode cX5_readThing 23 = .ok (.aload_n 1, 1) := by decide +kernel
theorem dX5_readThing_24 : decode cX5_readThing 24 = .ok (.invokevirtual 147, 3) := by decide +kernel
theorem dX5_readThing_27 : decode cX5_readThing 27 = .ok (.istore_n 3, 1) := by decide +kernel
theorem dX5_readThing_28 : decode cX5_readThing 28 = .ok (.iload_n 3, 1) := by decide +kernel
theorem dX5_readThing_29 : decode cX5_readThing 29 = .ok (.iconst (-1), 1) := by decide +kernel
theorem dX5_readThing_30 : decode cX5_readThing 30 = .ok (.if_icmp .eq 16, 3) := by decide +kernel
theorem dX5_readThing_33 : decode cX5_readThing 33 = .ok (.aload_n 1, 1) := by decide +kernel
theorem dX5_readThing_34 : decode cX5_readThing 34 = .ok (.iload_n 2, 1) := by decide +kernel
theorem dX5_readThing_35 : decode cX5_readThing 35 = .ok (.iload_n 3, 1) := by decide +kernel
theorem dX5_readThing_36 : decode cX5_readThing 36 = .ok (.invokevirtual 156, 3) := by decide +kernel
theorem dX5_readThing_39 : decode cX5_readThing 39 = .ok (.ifCond .eq 7, 3) := by decide +kernel
theorem dX5_readThing_42 : decode cX5_readThing 42 = .ok (.iconst 1, 1) := by decide +kernel
theorem dX5_readThing_43 : decode cX5_readThing 43 = .ok (.goto 4, 3) := by decide +kernel
theorem dX5_readThing_46 : decode cX5_readThing 46 = .ok (.iconst 0, 1) := by decide +kernel
theorem dX5_readThing_47 : decode cX5_readThing 47 = .ok (.ireturn, 1) := by decide +kernel
theorem dX6_topOf_0 : decode cX6_topOf 0 = .ok (.iload_n 1, 1) := by decide +kernel
theorem dX6_topOf_1 : decode cX6_topOf 1 = .ok (.ifCond .lt 24, 3) := by decide +kernel
theorem dX6_topOf_4 : decode cX6_topOf 4 = .ok (.iload_n 1, 1) := by decide +kernel
theorem dX6_topOf_5 : decode cX6_topOf 5 = .ok (.iconst 4, 1) := by decide +kernel
theorem dX6_topOf_6 : decode cX6_topOf 6 = .ok (.if_icmp .ge 19, 3) := by decide +kernel
theorem dX6_topOf_9 : decode cX6_topOf 9 = .ok (.aload_n 0, 1) := by decide +kernel
theorem dX6_topOf_10 : decode cX6_topOf 10 = .ok (.iload_n 1, 1) := by decide +kernel
theorem dX6_topOf_11 : decode cX6_topOf 11 = .ok (.aload_n 0, 1) := by decide +kernel
theorem dX6_topOf_12 : decode cX6_topOf 12 = .ok (.getfield 18, 3) := by decide +kernel
theorem dX6_topOf_15 : decode cX6_topOf 15 = .ok (.iload_n 1, 1) := by decide +kernel
theorem dX6_topOf_16 : decode cX6_topOf 16 = .ok (.iaload, 1) := by decide +kernel
theorem dX6_topOf_17 : decode cX6_topOf 17 = .ok (.iconst 1, 1) := by decide +kernel
theorem dX6_topOf_18 : decode cX6_topOf 18 = .ok (.isub, 1) := by decide +kernel
theorem dX6_topOf_19 : decode cX6_topOf 19 = .ok (.invokevirtual 26, 3) := by decide +kernel
theorem dX6_topOf_22 : decode cX6_topOf 22 = .ok (.goto 4, 3) := by decide +kernel
theorem dX6_topOf_25 : decode cX6_topOf 25 = .ok (.iconst (-1), 1) := by decide +kernel
theorem dX6_topOf_26 : decode cX6_topOf 26 = .ok (.ireturn, 1) := by decide +kernel
theorem dX7_hasRoom_0 : decode cX7_hasRoom 0 = .ok (.aload_n 0, 1) := by decide +kernel
theorem dX7_hasRoom_1 : decode cX7_hasRoom 1 = .ok (.getfield 15, 3) := by decide +kernel
theorem dX7_hasRoom_4 : decode cX7_hasRoom 4 = .ok (.bipush 20, 2) := by decide +kernel
theorem dX7_hasRoom_6 : decode cX7_hasRoom 6 = .ok (.iadd, 1) := by decide +kernel
theorem dX7_hasRoom_7 : decode cX7_hasRoom 7 = .ok (.sipush 1600, 3) := by decide +kernel
theorem dX7_hasRoom_10 : decode cX7_hasRoom 10 = .ok (.if_icmp .gt 7, 3) := by decide +kernel
theorem dX7_hasRoom_13 : decode cX7_hasRoom 13 = .ok (.iconst 1, 1) := by decide +kernel
theorem dX7_hasRoom_14 : decode cX7_hasRoom 14 = .ok (.goto 4, 3) := by decide +kernel
theorem dX7_hasRoom_17 : decode cX7_hasRoom 17 = .ok (.iconst 0, 1) := by decide +kernel
theorem dX7_hasRoom_18 : decode cX7_hasRoom 18 = .ok (.ireturn, 1) := by decide +kernel
theorem dX7_put_0 : decode cX7_put 0 = .ok (.bipush 24, 2) := by decide +kernel
theorem dX7_put_2 : decode cX7_put 2 = .ok (.istore_n 2, 1) := by decide +kernel
theorem dX7_put_3 : decode cX7_put 3 = .ok (.iload_n 2, 1) := by decide +kernel
theorem dX7_put_4 : decode cX7_put 4 = .ok (.ifCond .lt 49, 3) := by decide +kernel
theorem dX7_put_7 : decode cX7_put 7 = .ok (.aload_n 0, 1) := by decide +kernel
theorem dX7_put_8 : decode cX7_put 8 = .ok (.getfield 15, 3) := by decide +kernel
theorem dX7_put_11 : decode cX7_put 11 = .ok (.ifCond .lt 36, 3) := by decide +kernel
theorem dX7_put_14 : decode cX7_put 14 = .ok (.aload_n 0, 1) := by decide +kernel
theorem dX7_put_15 : decode cX7_put 15 = .ok (.getfield 15, 3) := by decide +kernel
theorem dX7_put_18 : decode cX7_put 18 = .ok (.sipush 1600, 3) := by decide +kernel
theorem dX7_put_21 : decode cX7_put 21 = .ok (.if_icmp .ge 26, 3) := by decide +kernel
theorem dX7_put_24 : decode cX7_put 24 = .ok (.aload_n 0, 1) := by decide +kernel
theorem dX7_put_25 : decode cX7_put 25 = .ok (.getfield 9, 3) := by decide +kernel
theorem dX7_put_28 : decode cX7_put 28 = .ok (.aload_n 0, 1) := by decide +kernel
theorem dX7_put_29 : decode cX7_put 29 = .ok (.getfield 15, 3) := by decide +kernel
theorem dX7_put_32 : decode cX7_put 32 = .ok (.iload_n 1, 1) := by decide +kernel
theorem dX7_put_33 : decode cX7_put 33 = .ok (.iload_n 2, 1) := by decide +kernel
theorem dX7_put_34 : decode cX7_put 34 = .ok (.ishr, 1) := by decide +kernel
theorem dX7_put_35 : decode cX7_put 35 = .ok (.i2b, 1) := by decide +kernel
theorem dX7_put_36 : decode cX7_put 36 = .ok (.bastore, 1) := by decide +kernel
theorem dX7_put_37 : decode cX7_put 37 = .ok (.aload_n 0, 1) := by decide +kernel
theorem dX7_put_38 : decode cX7_put 38 = .ok (.dup, 1) := by decide +kernel
theorem dX7_put_39 : decode cX7_put 39 = .ok (.getfield 15, 3) := by decide +kernel
theorem dX7_put_42 : decode cX7_put 42 = .ok (.iconst 1, 1) := by decide +kernel
theorem dX7_put_43 : decode cX7_put 43 = .ok (.iadd, 1) := by decide +kernel
theorem dX7_put_44 : decode cX7_put 44 = .ok (.putfield 15, 3) := by decide +kernel
theorem dX7_put_47 : decode cX7_put 47 = .ok (.iinc 2 (-8), 3) := by decide +kernel
theorem dX7_put_50 : decode cX7_put 50 = .ok (.goto (-47), 3) := by decide +kernel
theorem dX7_put_53 : decode cX7_put 53 = .ok (.return_, 1) := by decide +kernel
theorem dX9_addDoor_0 : decode cX9_addDoor 0 = .ok (.aload_n 0, 1) := by decide +kernel
theorem dX9_addDoor_1 : decode cX9_addDoor 1 = .ok (.iconst 1, 1) := by decide +kernel
theorem dX9_addDoor_2 : decode cX9_addDoor 2 = .ok (.iload_n 1, 1) := by decide +kernel
theorem dX9_addDoor_3 : decode cX9_addDoor 3 = .ok (.invokevirtual 80, 3) := by decide +kernel
theorem dX9_addDoor_6 : decode cX9_addDoor 6 = .ok (.ifCond .ne 5, 3) := by decide +kernel
theorem dX9_addDoor_9 : decode cX9_addDoor 9 = .ok (.iconst 0, 1) := by decide +kernel
theorem dX9_addDoor_10 : decode cX9_addDoor 10 = .ok (.ireturn, 1) := by decide +kernel
theorem dX9_addDoor_11 : decode cX9_addDoor 11 = .ok (.aload_n 0, 1) := by decide +kernel
theorem dX9_addDoor_12 : decode cX9_addDoor 12 = .ok (.getfield 9, 3) := by decide +kernel
theorem dX9_addDoor_15 : decode cX9_addDoor 15 = .ok (.iconst 1, 1) := by decide +kernel
theorem dX9_addDoor_16 : decode cX9_addDoor 16 = .ok (.iaload, 1) := by decide +kernel
theorem dX9_addDoor_17 : decode cX9_addDoor 17 = .ok (.iconst 1, 1) := by decide +kernel
theorem dX9_addDoor_18 : decode cX9_addDoor 18 = .ok (.isub, 1) := by decide +kernel
theorem dX9_addDoor_19 : decode cX9_addDoor 19 = .ok (.istore 5, 2) := by decide +kernel
theorem dX9_addDoor_21 : decode cX9_addDoor 21 = .ok (.aload_n 0, 1) := by decide +kernel
theorem dX9_addDoor_22 : decode cX9_addDoor 22 = .ok (.getfield 20, 3) := by decide +kernel
theorem dX9_addDoor_25 : decode cX9_addDoor 25 = .ok (.iload 5, 2) := by decide +kernel
theorem dX9_addDoor_27 : decode cX9_addDoor 27 = .ok (.iload_n 2, 1) := by decide +kernel
theorem dX9_addDoor_28 : decode cX9_addDoor 28 = .ok (.iastore, 1) := by decide +kernel
theorem dX9_addDoor_29 : decode cX9_addDoor 29 = .ok (.aload_n 0, 1) := by decide +kernel
theorem dX9_addDoor_30 : decode cX9_addDoor 30 = .ok (.getfield 23, 3) := by decide +kernel
theorem dX9_addDoor_33 : decode cX9_addDoor 33 = .ok (.iload 5, 2) := by decide +kernel
theorem dX9_addDoor_35 : decode cX9_addDoor 35 = .ok (.iload_n 3, 1) := by decide +kernel
theorem dX9_addDoor_36 : decode cX9_addDoor 36 = .ok (.iastore, 1) := by decide +kernel
theorem dX9_addDoor_37 : decode cX9_addDoor 37 = .ok (.aload_n 0, 1) := by decide +kernel
theorem dX9_addDoor_38 : decode cX9_addDoor 38 = .ok (.getfield 26, 3) := by decide +kernel
theorem dX9_addDoor_41 : decode cX9_addDoor 41 = .ok (.iload 5, 2) := by decide +kernel
theorem dX9_addDoor_43 : decode cX9_addDoor 43 = .ok (.iload 4, 2) := by decide +kernel
theorem dX9_addDoor_45 : decode cX9_addDoor 45 = .ok (.iastore, 1) := by decide +kernel
theorem dX9_addDoor_46 : decode cX9_addDoor 46 = .ok (.iconst 1, 1) := by decide +kernel
theorem dX9_addDoor_47 : decode cX9_addDoor 47 = .ok (.ireturn, 1) := by decide +kernel
theorem dX9_addKey_0 : decode cX9_addKey 0 = .ok (.aload_n 0, 1) := by decide +kernel
theorem dX9_addKey_1 : decode cX9_addKey 1 = .ok (.iconst 2, 1) := by decide +kernel
theorem dX9_addKey_2 : decode cX9_addKey 2 = .ok (.iload_n 1, 1) := by decide +kernel
theorem dX9_addKey_3 : decode cX9_addKey 3 = .ok (.invokevirtual 80, 3) := by decide +kernel
theorem dX9_addKey_6 : decode cX9_addKey 6 = .ok (.ifCond .ne 5, 3) := by decide +kernel
theorem dX9_addKey_9 : decode cX9_addKey 9 = .ok (.iconst 0, 1) := by decide +kernel
theorem dX9_addKey_10 : decode cX9_addKey 10 = .ok (.ireturn, 1) := by decide +kernel
theorem dX9_addKey_11 : decode cX9_addKey 11 = .ok (.aload_n 0, 1) := by decide +kernel
theorem dX9_addKey_12 : decode cX9_addKey 12 = .ok (.getfield 63, 3) := by decide +kernel
theorem dX9_addKey_15 : decode cX9_addKey 15 = .ok (.getfield 84, 3) := by decide +kernel
theorem dX9_addKey_18 : decode cX9_addKey 18 = .ok (.aload_n 0, 1) := by decide +kernel
theorem dX9_addKey_19 : decode cX9_addKey 19 = .ok (.getfield 9, 3) := by decide +kernel
theorem dX9_addKey_22 : decode cX9_addKey 22 = .ok (.iconst 2, 1) := by decide +kernel
theorem dX9_addKey_23 : decode cX9_addKey 23 = .ok (.iaload, 1) := by decide +kernel
theorem dX9_addKey_24 : decode cX9_addKey 24 = .ok (.iconst 1, 1) := by decide +kernel
theorem dX9_addKey_25 : decode cX9_addKey 25 = .ok (.isub, 1) := by decide +kernel
theorem dX9_addKey_26 : decode cX9_addKey 26 = .ok (.iload_n 2, 1) := by decide +kernel
theorem dX9_addKey_27 : decode cX9_addKey 27 = .ok (.iastore, 1) := by decide +kernel
theorem dX9_addKey_28 : decode cX9_addKey 28 = .ok (.iconst 1, 1) := by decide +kernel
theorem dX9_addKey_29 : decode cX9_addKey 29 = .ok (.ireturn, 1) := by decide +kernel
theorem dX9_addPerson_0 : decode cX9_addPerson 0 = .ok (.aload_n 0, 1) := by decide +kernel
theorem dX9_addPerson_1 : decode cX9_addPerson 1 = .ok (.iconst 3, 1) := by decide +kernel
theorem dX9_addPerson_2 : decode cX9_addPerson 2 = .ok (.iload_n 1, 1) := by decide +kernel
theorem dX9_addPerson_3 : decode cX9_addPerson 3 = .ok (.invokevirtual 80, 3) := by decide +kernel
theorem dX9_addPerson_6 : decode cX9_addPerson 6 = .ok (.ifCond .ne 5, 3) := by decide +kernel
theorem dX9_addPerson_9 : decode cX9_addPerson 9 = .ok (.iconst 0, 1) := by decide +kernel
theorem dX9_addPerson_10 : decode cX9_addPerson 10 = .ok (.ireturn, 1) := by decide +kernel
theorem dX9_addPerson_11 : decode cX9_addPerson 11 = .ok (.aload_n 0, 1) := by decide +kernel
theorem dX9_addPerson_12 : decode cX9_addPerson 12 = .ok (.getfield 63, 3) := by decide +kernel
theorem dX9_addPerson_15 : decode cX9_addPerson 15 = .ok (.getfield 87, 3) := by decide +kernel
theorem dX9_addPerson_18 : decode cX9_addPerson 18 = .ok (.aload_n 0, 1) := by decide +kernel
theorem dX9_addPerson_19 : decode cX9_addPerson 19 = .ok (.getfield 9, 3) := by decide +kernel
theorem dX9_addPerson_22 : decode cX9_addPerson 22 = .ok (.iconst 3, 1) := by decide +kernel
theorem dX9_addPerson_23 : decode cX9_addPerson 23 = .ok (.iaload, 1) := by decide +kernel
theorem dX9_addPerson_24 : decode cX9_addPerson 24 = .ok (.iconst 1, 1) := by decide +kernel
theorem dX9_addPerson_25 : decode cX9_addPerson 25 = .ok (.isub, 1) := by decide +kernel
theorem dX9_addPerson_26 : decode cX9_addPerson 26 = .ok (.iload_n 2, 1) := by decide +kernel
theorem dX9_addPerson_27 : decode cX9_addPerson 27 = .ok (.iastore, 1) := by decide +kernel
theorem dX9_addPerson_28 : decode cX9_addPerson 28 = .ok (.iconst 1, 1) := by decide +kernel
theorem dX9_addPerson_29 : decode cX9_addPerson 29 = .ok (.ireturn, 1) := by decide +kernel
theorem dX9_addThing_0 : decode cX9_addThing 0 = .ok (.aload_n 0, 1) := by decide +kernel
theorem dX9_addThing_1 : decode cX9_addThing 1 = .ok (.iconst 4, 1) := by decide +kernel
theorem dX9_addThing_2 : decode cX9_addThing 2 = .ok (.iload_n 1, 1) := by decide +kernel
theorem dX9_addThing_3 : decode cX9_addThing 3 = .ok (.invokevirtual 80, 3) := by decide +kernel
theorem dX9_addThing_6 : decode cX9_addThing 6 = .ok (.ifCond .ne 5, 3) := by decide +kernel
theorem dX9_addThing_9 : decode cX9_addThing 9 = .ok (.iconst 0, 1) := by decide +kernel
theorem dX9_addThing_10 : decode cX9_addThing 10 = .ok (.ireturn, 1) := by decide +kernel
theorem dX9_addThing_11 : decode cX9_addThing 11 = .ok (.aload_n 0, 1) := by decide +kernel
theorem dX9_addThing_12 : decode cX9_addThing 12 = .ok (.getfield 29, 3) := by decide +kernel
theorem dX9_addThing_15 : decode cX9_addThing 15 = .ok (.aload_n 0, 1) := by decide +kernel
theorem dX9_addThing_16 : decode cX9_addThing 16 = .ok (.getfield 9, 3) := by decide +kernel
theorem dX9_addThing_19 : decode cX9_addThing 19 = .ok (.iconst 4, 1) := by decide +kernel
theorem dX9_addThing_20 : decode cX9_addThing 20 = .ok (.iaload, 1) := by decide +kernel
theorem dX9_addThing_21 : decode cX9_addThing 21 = .ok (.iconst 1, 1) := by decide +kernel
theorem dX9_addThing_22 : decode cX9_addThing 22 = .ok (.isub, 1) := by decide +kernel
theorem dX9_addThing_23 : decode cX9_addThing 23 = .ok (.iload_n 2, 1) := by decide +kernel
theorem dX9_addThing_24 : decode cX9_addThing 24 = .ok (.iastore, 1) := by decide +kernel
theorem dX9_addThing_25 : decode cX9_addThing 25 = .ok (.iconst 1, 1) := by decide +kernel
theorem dX9_addThing_26 : decode cX9_addThing 26 = .ok (.ireturn, 1) := by decide +kernel
