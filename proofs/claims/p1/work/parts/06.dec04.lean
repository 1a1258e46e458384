theorem dX12_town_125 : decode cX12_town 125 = .ok (.aload_n 0, 1) := by decide +kernel
theorem dX12_town_126 : decode cX12_town 126 = .ok (.invokevirtual 293, 3) := by decide +kernel
theorem dX12_town_129 : decode cX12_town 129 = .ok (.aload_n 0, 1) := by decide +kernel
theorem dX12_town_130 : decode cX12_town 130 = .ok (.getfield 36, 3) := by decide +kernel
theorem dX12_town_133 : decode cX12_town 133 = .ok (.ifCond .ne 20, 3) := by decide +kernel
theorem dX12_town_136 : decode cX12_town 136 = .ok (.aload_n 0, 1) := by decide +kernel
theorem dX12_town_137 : decode cX12_town 137 = .ok (.getfield 20, 3) := by decide +kernel
theorem dX12_town_140 : decode cX12_town 140 = .ok (.ifCond .eq 13, 3) := by decide +kernel
theorem dX12_town_153 : decode cX12_town 153 = .ok (.aload_n 0, 1) := by decide +kernel
theorem dX12_town_154 : decode cX12_town 154 = .ok (.aload_n 0, 1) := by decide +kernel
theorem dX12_town_155 : decode cX12_town 155 = .ok (.getfield 36, 3) := by decide +kernel
theorem dX12_town_158 : decode cX12_town 158 = .ok (.putfield 42, 3) := by decide +kernel
theorem dX12_town_161 : decode cX12_town 161 = .ok (.aload_n 0, 1) := by decide +kernel
theorem dX12_town_162 : decode cX12_town 162 = .ok (.aload_n 0, 1) := by decide +kernel
theorem dX12_town_163 : decode cX12_town 163 = .ok (.getfield 39, 3) := by decide +kernel
theorem dX12_town_166 : decode cX12_town 166 = .ok (.putfield 45, 3) := by decide +kernel
theorem dX12_town_169 : decode cX12_town 169 = .ok (.aload_n 0, 1) := by decide +kernel
theorem dX12_town_170 : decode cX12_town 170 = .ok (.getfield 36, 3) := by decide +kernel
theorem dX12_town_173 : decode cX12_town 173 = .ok (.ifCond .le 9, 3) := by decide +kernel
theorem dX12_town_182 : decode cX12_town 182 = .ok (.aload_n 0, 1) := by decide +kernel
theorem dX12_town_183 : decode cX12_town 183 = .ok (.aload_n 0, 1) := by decide +kernel
theorem dX12_town_184 : decode cX12_town 184 = .ok (.getfield 155, 3) := by decide +kernel
theorem dX12_town_187 : decode cX12_town 187 = .ok (.putfield 48, 3) := by decide +kernel
theorem dX12_town_190 : decode cX12_town 190 = .ok (.aload_n 0, 1) := by decide +kernel
theorem dX12_town_191 : decode cX12_town 191 = .ok (.iconst 0, 1) := by decide +kernel
theorem dX12_town_192 : decode cX12_town 192 = .ok (.putfield 241, 3) := by decide +kernel
theorem dX12_town_195 : decode cX12_town 195 = .ok (.iload_n 1, 1) := by decide +kernel
theorem dX12_town_196 : decode cX12_town 196 = .ok (.ireturn, 1) := by decide +kernel
theorem dX12_fault_0 : decode cX12_fault 0 = .ok (.iload_n 1, 1) := by decide +kernel
theorem dX12_fault_1 : decode cX12_fault 1 = .ok (.ifCond .ne 10, 3) := by decide +kernel
theorem dX12_fault_4 : decode cX12_fault 4 = .ok (.aload_n 0, 1) := by decide +kernel
theorem dX12_fault_5 : decode cX12_fault 5 = .ok (.getfield 42, 3) := by decide +kernel
theorem dX12_fault_8 : decode cX12_fault 8 = .ok (.goto 16, 3) := by decide +kernel
theorem dX12_fault_11 : decode cX12_fault 11 = .ok (.iload_n 1, 1) := by decide +kernel
theorem dX12_fault_12 : decode cX12_fault 12 = .ok (.iconst 1, 1) := by decide +kernel
theorem dX12_fault_13 : decode cX12_fault 13 = .ok (.if_icmp .ne 10, 3) := by decide +kernel
theorem dX12_fault_16 : decode cX12_fault 16 = .ok (.aload_n 0, 1) := by decide +kernel
theorem dX12_fault_17 : decode cX12_fault 17 = .ok (.getfield 45, 3) := by decide +kernel
theorem dX12_fault_20 : decode cX12_fault 20 = .ok (.goto 4, 3) := by decide +kernel
theorem dX12_fault_23 : decode cX12_fault 23 = .ok (.iconst (-1), 1) := by decide +kernel
theorem dX12_fault_24 : decode cX12_fault 24 = .ok (.ireturn, 1) := by decide +kernel
theorem dX12_refuses_0 : decode cX12_refuses 0 = .ok (.aload_n 0, 1) := by decide +kernel
theorem dX12_refuses_1 : decode cX12_refuses 1 = .ok (.getfield 189, 3) := by decide +kernel
theorem dX12_refuses_4 : decode cX12_refuses 4 = .ok (.iload_n 1, 1) := by decide +kernel
theorem dX12_refuses_5 : decode cX12_refuses 5 = .ok (.dup2, 1) := by decide +kernel
theorem dX12_refuses_6 : decode cX12_refuses 6 = .ok (.iaload, 1) := by decide +kernel
theorem dX12_refuses_7 : decode cX12_refuses 7 = .ok (.iconst 1, 1) := by decide +kernel
theorem dX12_refuses_8 : decode cX12_refuses 8 = .ok (.iadd, 1) := by decide +kernel
theorem dX12_refuses_9 : decode cX12_refuses 9 = .ok (.iastore, 1) := by decide +kernel
theorem dX12_refuses_10 : decode cX12_refuses 10 = .ok (.iconst (-1), 1) := by decide +kernel
theorem dX12_refuses_11 : decode cX12_refuses 11 = .ok (.ireturn, 1) := by decide +kernel
theorem dX12_status_0 : decode cX12_status 0 = .ok (.iload_n 1, 1) := by decide +kernel
theorem dX12_status_1 : decode cX12_status 1 = .ok (.iconst 0, 1) := by decide +kernel
theorem dX12_status_2 : decode cX12_status 2 = .ok (.iconst 5, 1) := by decide +kernel
theorem dX12_status_3 : decode cX12_status 3 = .ok (.invokestatic 352, 3) := by decide +kernel
theorem dX12_status_6 : decode cX12_status 6 = .ok (.ifCond .eq 12, 3) := by decide +kernel
theorem dX12_status_9 : decode cX12_status 9 = .ok (.aload_n 0, 1) := by decide +kernel
theorem dX12_status_10 : decode cX12_status 10 = .ok (.getfield 189, 3) := by decide +kernel
theorem dX12_status_13 : decode cX12_status 13 = .ok (.iload_n 1, 1) := by decide +kernel
theorem dX12_status_14 : decode cX12_status 14 = .ok (.iaload, 1) := by decide +kernel
theorem dX12_status_15 : decode cX12_status 15 = .ok (.goto 4, 3) := by decide +kernel
theorem dX12_status_18 : decode cX12_status 18 = .ok (.iconst (-1), 1) := by decide +kernel
theorem dX12_status_19 : decode cX12_status 19 = .ok (.ireturn, 1) := by decide +kernel
theorem dX12_isDoor_0 : decode cX12_isDoor 0 = .ok (.iload_n 1, 1) := by decide +kernel
theorem dX12_isDoor_1 : decode cX12_isDoor 1 = .ok (.iconst 0, 1) := by decide +kernel
theorem dX12_isDoor_2 : decode cX12_isDoor 2 = .ok (.aload_n 0, 1) := by decide +kernel
theorem dX12_isDoor_3 : decode cX12_isDoor 3 = .ok (.getfield 58, 3) := by decide +kernel
theorem dX12_isDoor_6 : decode cX12_isDoor 6 = .ok (.aload_n 0, 1) := by decide +kernel
theorem dX12_isDoor_7 : decode cX12_isDoor 7 = .ok (.getfield 48, 3) := by decide +kernel
theorem dX12_isDoor_10 : decode cX12_isDoor 10 = .ok (.iaload, 1) := by decide +kernel
theorem dX12_isDoor_11 : decode cX12_isDoor 11 = .ok (.iconst 1, 1) := by decide +kernel
theorem dX12_isDoor_12 : decode cX12_isDoor 12 = .ok (.isub, 1) := by decide +kernel
theorem dX12_isDoor_13 : decode cX12_isDoor 13 = .ok (.invokestatic 352, 3) := by decide +kernel
theorem dX12_isDoor_16 : decode cX12_isDoor 16 = .ok (.ireturn, 1) := by decide +kernel
theorem dX12_isKey_0 : decode cX12_isKey 0 = .ok (.iload_n 1, 1) := by decide +kernel
theorem dX12_isKey_1 : decode cX12_isKey 1 = .ok (.iconst 0, 1) := by decide +kernel
theorem dX12_isKey_2 : decode cX12_isKey 2 = .ok (.aload_n 0, 1) := by decide +kernel
theorem dX12_isKey_3 : decode cX12_isKey 3 = .ok (.getfield 80, 3) := by decide +kernel
theorem dX12_isKey_6 : decode cX12_isKey 6 = .ok (.aload_n 0, 1) := by decide +kernel
theorem dX12_isKey_7 : decode cX12_isKey 7 = .ok (.getfield 48, 3) := by decide +kernel
theorem dX12_isKey_10 : decode cX12_isKey 10 = .ok (.iaload, 1) := by decide +kernel
theorem dX12_isKey_11 : decode cX12_isKey 11 = .ok (.iconst 1, 1) := by decide +kernel
theorem dX12_isKey_12 : decode cX12_isKey 12 = .ok (.isub, 1) := by decide +kernel
theorem dX12_isKey_13 : decode cX12_isKey 13 = .ok (.invokestatic 352, 3) := by decide +kernel
theorem dX12_isKey_16 : decode cX12_isKey 16 = .ok (.ireturn, 1) := by decide +kernel
theorem dX12_isPerson_0 : decode cX12_isPerson 0 = .ok (.iload_n 1, 1) := by decide +kernel
theorem dX12_isPerson_1 : decode cX12_isPerson 1 = .ok (.iconst 0, 1) := by decide +kernel
theorem dX12_isPerson_2 : decode cX12_isPerson 2 = .ok (.aload_n 0, 1) := by decide +kernel
theorem dX12_isPerson_3 : decode cX12_isPerson 3 = .ok (.getfield 95, 3) := by decide +kernel
theorem dX12_isPerson_6 : decode cX12_isPerson 6 = .ok (.aload_n 0, 1) := by decide +kernel
theorem dX12_isPerson_7 : decode cX12_isPerson 7 = .ok (.getfield 48, 3) := by decide +kernel
theorem dX12_isPerson_10 : decode cX12_isPerson 10 = .ok (.iaload, 1) := by decide +kernel
theorem dX12_isPerson_11 : decode cX12_isPerson 11 = .ok (.iconst 1, 1) := by decide +kernel
theorem dX12_isPerson_12 : decode cX12_isPerson 12 = .ok (.isub, 1) := by decide +kernel
theorem dX12_isPerson_13 : decode cX12_isPerson 13 = .ok (.invokestatic 352, 3) := by decide +kernel
theorem dX12_isPerson_16 : decode cX12_isPerson 16 = .ok (.ireturn, 1) := by decide +kernel
theorem dX12_key4_0 : decode cX12_key4 0 = .ok (.iconst 4, 1) := by decide +kernel
theorem dX12_key4_1 : decode cX12_key4 1 = .ok (.aload_n 0, 1) := by decide +kernel
theorem dX12_key4_2 : decode cX12_key4 2 = .ok (.getfield 48, 3) := by decide +kernel
theorem dX12_key4_5 : decode cX12_key4 5 = .ok (.imul, 1) := by decide +kernel
theorem dX12_key4_6 : decode cX12_key4 6 = .ok (.iload_n 1, 1) := by decide +kernel
theorem dX12_key4_7 : decode cX12_key4 7 = .ok (.iadd, 1) := by decide +kernel
theorem dX12_key4_8 : decode cX12_key4 8 = .ok (.ireturn, 1) := by decide +kernel
theorem dX12_closedAll_0 : decode cX12_closedAll 0 = .ok (.iconst 0, 1) := by decide +kernel
theorem dX12_closedAll_1 : decode cX12_closedAll 1 = .ok (.istore_n 1, 1) := by decide +kernel
theorem dX12_closedAll_2 : decode cX12_closedAll 2 = .ok (.iconst 0, 1) := by decide +kernel
theorem dX12_closedAll_3 : decode cX12_closedAll 3 = .ok (.istore_n 2, 1) := by decide +kernel
theorem dX12_closedAll_4 : decode cX12_closedAll 4 = .ok (.iload_n 2, 1) := by decide +kernel
theorem dX12_closedAll_5 : decode cX12_closedAll 5 = .ok (.aload_n 0, 1) := by decide +kernel
theorem dX12_closedAll_6 : decode cX12_closedAll 6 = .ok (.getfield 58, 3) := by decide +kernel
theorem dX12_closedAll_9 : decode cX12_closedAll 9 = .ok (.aload_n 0, 1) := by decide +kernel
theorem dX12_closedAll_10 : decode cX12_closedAll 10 = .ok (.getfield 48, 3) := by decide +kernel
theorem dX12_closedAll_13 : decode cX12_closedAll 13 = .ok (.iaload, 1) := by decide +kernel
theorem dX12_closedAll_14 : decode cX12_closedAll 14 = .ok (.if_icmp .ge 25, 3) := by decide +kernel
theorem dX12_closedAll_39 : decode cX12_closedAll 39 = .ok (.iload_n 1, 1) := by decide +kernel
theorem dX12_closedAll_40 : decode cX12_closedAll 40 = .ok (.ireturn, 1) := by decide +kernel
theorem dX12_has_0 : decode cX12_has 0 = .ok (.iconst 0, 1) := by decide +kernel
theorem dX12_has_1 : decode cX12_has 1 = .ok (.istore_n 2, 1) := by decide +kernel
theorem dX12_has_2 : decode cX12_has 2 = .ok (.iload_n 1, 1) := by decide +kernel
theorem dX12_has_3 : decode cX12_has 3 = .ok (.tableswitch 177 0 9 #[53, 63, 73, 83, 93, 103, 113, 123, 133, 138], 53) := by decide +kernel
theorem dX12_has_56 : decode cX12_has 56 = .ok (.aload_n 0, 1) := by decide +kernel
theorem dX12_has_57 : decode cX12_has 57 = .ok (.getfield 51, 3) := by decide +kernel
theorem dX12_has_60 : decode cX12_has 60 = .ok (.aload_n 0, 1) := by decide +kernel
theorem dX12_has_61 : decode cX12_has 61 = .ok (.getfield 48, 3) := by decide +kernel
theorem dX12_has_64 : decode cX12_has 64 = .ok (.iaload, 1) := by decide +kernel
theorem dX12_has_65 : decode cX12_has 65 = .ok (.ireturn, 1) := by decide +kernel
theorem dX12_has_66 : decode cX12_has 66 = .ok (.aload_n 0, 1) := by decide +kernel
theorem dX12_has_67 : decode cX12_has 67 = .ok (.getfield 58, 3) := by decide +kernel
theorem dX12_has_70 : decode cX12_has 70 = .ok (.aload_n 0, 1) := by decide +kernel
theorem dX12_has_71 : decode cX12_has 71 = .ok (.getfield 48, 3) := by decide +kernel
theorem dX12_has_74 : decode cX12_has 74 = .ok (.iaload, 1) := by decide +kernel
theorem dX12_has_75 : decode cX12_has 75 = .ok (.ireturn, 1) := by decide +kernel
theorem dX12_has_76 : decode cX12_has 76 = .ok (.aload_n 0, 1) := by decide +kernel
theorem dX12_has_77 : decode cX12_has 77 = .ok (.getfield 80, 3) := by decide +kernel
theorem dX12_has_80 : decode cX12_has 80 = .ok (.aload_n 0, 1) := by decide +kernel
theorem dX12_has_81 : decode cX12_has 81 = .ok (.getfield 48, 3) := by decide +kernel
theorem dX12_has_84 : decode cX12_has 84 = .ok (.iaload, 1) := by decide +kernel
theorem dX12_has_85 : decode cX12_has 85 = .ok (.ireturn, 1) := by decide +kernel
theorem dX12_has_86 : decode cX12_has 86 = .ok (.aload_n 0, 1) := by decide +kernel
theorem dX12_has_87 : decode cX12_has 87 = .ok (.getfield 95, 3) := by decide +kernel
theorem dX12_has_90 : decode cX12_has 90 = .ok (.aload_n 0, 1) := by decide +kernel
theorem dX12_has_91 : decode cX12_has 91 = .ok (.getfield 48, 3) := by decide +kernel
theorem dX12_has_94 : decode cX12_has 94 = .ok (.iaload, 1) := by decide +kernel
theorem dX12_has_95 : decode cX12_has 95 = .ok (.ireturn, 1) := by decide +kernel
theorem dX12_has_96 : decode cX12_has 96 = .ok (.aload_n 0, 1) := by decide +kernel
theorem dX12_has_97 : decode cX12_has 97 = .ok (.getfield 104, 3) := by decide +kernel
theorem dX12_has_100 : decode cX12_has 100 = .ok (.aload_n 0, 1) := by decide +kernel
theorem dX12_has_101 : decode cX12_has 101 = .ok (.getfield 48, 3) := by decide +kernel
theorem dX12_has_104 : decode cX12_has 104 = .ok (.iaload, 1) := by decide +kernel
theorem dX12_has_105 : decode cX12_has 105 = .ok (.ireturn, 1) := by decide +kernel
theorem dX12_has_106 : decode cX12_has 106 = .ok (.aload_n 0, 1) := by decide +kernel
theorem dX12_has_107 : decode cX12_has 107 = .ok (.getfield 113, 3) := by decide +kernel
theorem dX12_has_110 : decode cX12_has 110 = .ok (.aload_n 0, 1) := by decide +kernel
theorem dX12_has_111 : decode cX12_has 111 = .ok (.getfield 48, 3) := by decide +kernel
theorem dX12_has_114 : decode cX12_has 114 = .ok (.iaload, 1) := by decide +kernel
theorem dX12_has_115 : decode cX12_has 115 = .ok (.ireturn, 1) := by decide +kernel
theorem dX12_has_116 : decode cX12_has 116 = .ok (.aload_n 0, 1) := by decide +kernel
theorem dX12_has_117 : decode cX12_has 117 = .ok (.getfield 122, 3) := by decide +kernel
theorem dX12_has_120 : decode cX12_has 120 = .ok (.aload_n 0, 1) := by decide +kernel
theorem dX12_has_121 : decode cX12_has 121 = .ok (.getfield 48, 3) := by decide +kernel
theorem dX12_has_124 : decode cX12_has 124 = .ok (.iaload, 1) := by decide +kernel
theorem dX12_has_125 : decode cX12_has 125 = .ok (.ireturn, 1) := by decide +kernel
theorem dX12_has_126 : decode cX12_has 126 = .ok (.aload_n 0, 1) := by decide +kernel
theorem dX12_has_127 : decode cX12_has 127 = .ok (.getfield 134, 3) := by decide +kernel
theorem dX12_has_130 : decode cX12_has 130 = .ok (.aload_n 0, 1) := by decide +kernel
theorem dX12_has_131 : decode cX12_has 131 = .ok (.getfield 48, 3) := by decide +kernel
theorem dX12_has_134 : decode cX12_has 134 = .ok (.iaload, 1) := by decide +kernel
theorem dX12_has_135 : decode cX12_has 135 = .ok (.ireturn, 1) := by decide +kernel
theorem dX12_has_136 : decode cX12_has 136 = .ok (.aload_n 0, 1) := by decide +kernel
theorem dX12_has_137 : decode cX12_has 137 = .ok (.invokevirtual 496, 3) := by decide +kernel
theorem dX12_has_140 : decode cX12_has 140 = .ok (.ireturn, 1) := by decide +kernel
theorem dX12_has_141 : decode cX12_has 141 = .ok (.iconst 0, 1) := by decide +kernel
theorem dX12_has_142 : decode cX12_has 142 = .ok (.istore_n 3, 1) := by decide +kernel
theorem dX12_has_143 : decode cX12_has 143 = .ok (.iload_n 3, 1) := by decide +kernel
theorem dX12_has_144 : decode cX12_has 144 = .ok (.aload_n 0, 1) := by decide +kernel
theorem dX12_has_145 : decode cX12_has 145 = .ok (.getfield 58, 3) := by decide +kernel
theorem dX12_has_148 : decode cX12_has 148 = .ok (.aload_n 0, 1) := by decide +kernel
theorem dX12_has_149 : decode cX12_has 149 = .ok (.getfield 48, 3) := by decide +kernel
theorem dX12_has_152 : decode cX12_has 152 = .ok (.iaload, 1) := by decide +kernel
theorem dX12_has_153 : decode cX12_has 153 = .ok (.if_icmp .ge 25, 3) := by decide +kernel
theorem dX12_has_178 : decode cX12_has 178 = .ok (.iload_n 2, 1) := by decide +kernel
theorem dX12_has_179 : decode cX12_has 179 = .ok (.ireturn, 1) := by decide +kernel
theorem dX12_has_180 : decode cX12_has 180 = .ok (.iconst (-1), 1) := by decide +kernel
theorem dX12_has_181 : decode cX12_has 181 = .ok (.ireturn, 1) := by decide +kernel
theorem dX12_manyOf_0 : decode cX12_manyOf 0 = .ok (.iload_n 1, 1) := by decide +kernel
theorem dX12_manyOf_1 : decode cX12_manyOf 1 = .ok (.ifCond .ne 15, 3) := by decide +kernel
theorem dX12_manyOf_4 : decode cX12_manyOf 4 = .ok (.aload_n 0, 1) := by decide +kernel
theorem dX12_manyOf_5 : decode cX12_manyOf 5 = .ok (.getfield 51, 3) := by decide +kernel
theorem dX12_manyOf_8 : decode cX12_manyOf 8 = .ok (.aload_n 0, 1) := by decide +kernel
theorem dX12_manyOf_9 : decode cX12_manyOf 9 = .ok (.getfield 48, 3) := by decide +kernel
theorem dX12_manyOf_12 : decode cX12_manyOf 12 = .ok (.iaload, 1) := by decide +kernel
theorem dX12_manyOf_13 : decode cX12_manyOf 13 = .ok (.goto 63, 3) := by decide +kernel
theorem dX12_manyOf_16 : decode cX12_manyOf 16 = .ok (.iload_n 1, 1) := by decide +kernel
theorem dX12_manyOf_17 : decode cX12_manyOf 17 = .ok (.iconst 1, 1) := by decide +kernel
theorem dX12_manyOf_18 : decode cX12_manyOf 18 = .ok (.if_icmp .ne 15, 3) := by decide +kernel
theorem dX12_manyOf_21 : decode cX12_manyOf 21 = .ok (.aload_n 0, 1) := by decide +kernel
theorem dX12_manyOf_22 : decode cX12_manyOf 22 = .ok (.getfield 58, 3) := by decide +kernel
theorem dX12_manyOf_25 : decode cX12_manyOf 25 = .ok (.aload_n 0, 1) := by decide +kernel
theorem dX12_manyOf_26 : decode cX12_manyOf 26 = .ok (.getfield 48, 3) := by decide +kernel
theorem dX12_manyOf_29 : decode cX12_manyOf 29 = .ok (.iaload, 1) := by decide +kernel
theorem dX12_manyOf_30 : decode cX12_manyOf 30 = .ok (.goto 46, 3) := by decide +kernel
theorem dX12_manyOf_33 : decode cX12_manyOf 33 = .ok (.iload_n 1, 1) := by decide +kernel
theorem dX12_manyOf_34 : decode cX12_manyOf 34 = .ok (.iconst 2, 1) := by decide +kernel
theorem dX12_manyOf_35 : decode cX12_manyOf 35 = .ok (.if_icmp .ne 15, 3) := by decide +kernel
theorem dX12_manyOf_38 : decode cX12_manyOf 38 = .ok (.aload_n 0, 1) := by decide +kernel
theorem dX12_manyOf_39 : decode cX12_manyOf 39 = .ok (.getfield 80, 3) := by decide +kernel
theorem dX12_manyOf_42 : decode cX12_manyOf 42 = .ok (.aload_n 0, 1) := by decide +kernel
theorem dX12_manyOf_43 : decode cX12_manyOf 43 = .ok (.getfield 48, 3) := by decide +kernel
theorem dX12_manyOf_46 : decode cX12_manyOf 46 = .ok (.iaload, 1) := by decide +kernel
theorem dX12_manyOf_47 : decode cX12_manyOf 47 = .ok (.goto 29, 3) := by decide +kernel
theorem dX12_manyOf_50 : decode cX12_manyOf 50 = .ok (.iload_n 1, 1) := by decide +kernel
theorem dX12_manyOf_51 : decode cX12_manyOf 51 = .ok (.iconst 3, 1) := by decide +kernel
theorem dX12_manyOf_52 : decode cX12_manyOf 52 = .ok (.if_icmp .ne 15, 3) := by decide +kernel
theorem dX12_manyOf_55 : decode cX12_manyOf 55 = .ok (.aload_n 0, 1) := by decide +kernel
theorem dX12_manyOf_56 : decode cX12_manyOf 56 = .ok (.getfield 95, 3) := by decide +kernel
theorem dX12_manyOf_59 : decode cX12_manyOf 59 = .ok (.aload_n 0, 1) := by decide +kernel
theorem dX12_manyOf_60 : decode cX12_manyOf 60 = .ok (.getfield 48, 3) := by decide +kernel
theorem dX12_manyOf_63 : decode cX12_manyOf 63 = .ok (.iaload, 1) := by decide +kernel
theorem dX12_manyOf_64 : decode cX12_manyOf 64 = .ok (.goto 12, 3) := by decide +kernel
theorem dX12_manyOf_67 : decode cX12_manyOf 67 = .ok (.aload_n 0, 1) := by decide +kernel
theorem dX12_manyOf_68 : decode cX12_manyOf 68 = .ok (.getfield 104, 3) := by decide +kernel
theorem dX12_manyOf_71 : decode cX12_manyOf 71 = .ok (.aload_n 0, 1) := by decide +kernel
theorem dX12_manyOf_72 : decode cX12_manyOf 72 = .ok (.getfield 48, 3) := by decide +kernel
theorem dX12_manyOf_75 : decode cX12_manyOf 75 = .ok (.iaload, 1) := by decide +kernel
theorem dX12_manyOf_76 : decode cX12_manyOf 76 = .ok (.ireturn, 1) := by decide +kernel
theorem dX12_letter_0 : decode cX12_letter 0 = .ok (.iload_n 1, 1) := by decide +kernel
theorem dX12_letter_1 : decode cX12_letter 1 = .ok (.iconst 0, 1) := by decide +kernel
theorem dX12_letter_2 : decode cX12_letter 2 = .ok (.iconst 4, 1) := by decide +kernel
theorem dX12_letter_3 : decode cX12_letter 3 = .ok (.invokestatic 352, 3) := by decide +kernel
theorem dX12_letter_6 : decode cX12_letter 6 = .ok (.ifCond .eq 18, 3) := by decide +kernel
theorem dX12_letter_9 : decode cX12_letter 9 = .ok (.iload_n 2, 1) := by decide +kernel
theorem dX12_letter_10 : decode cX12_letter 10 = .ok (.iconst 0, 1) := by decide +kernel
theorem dX12_letter_11 : decode cX12_letter 11 = .ok (.aload_n 0, 1) := by decide +kernel
theorem dX12_letter_12 : decode cX12_letter 12 = .ok (.iload_n 1, 1) := by decide +kernel
theorem dX12_letter_13 : decode cX12_letter 13 = .ok (.invokevirtual 502, 3) := by decide +kernel
theorem dX12_letter_16 : decode cX12_letter 16 = .ok (.iconst 1, 1) := by decide +kernel
theorem dX12_letter_17 : decode cX12_letter 17 = .ok (.isub, 1) := by decide +kernel
theorem dX12_letter_18 : decode cX12_letter 18 = .ok (.invokestatic 352, 3) := by decide +kernel
theorem dX12_letter_21 : decode cX12_letter 21 = .ok (.ifCond .ne 5, 3) := by decide +kernel
theorem dX12_letter_24 : decode cX12_letter 24 = .ok (.iconst (-1), 1) := by decide +kernel
theorem dX12_letter_25 : decode cX12_letter 25 = .ok (.ireturn, 1) := by decide +kernel
theorem dX12_door__0 : decode cX12_door_ 0 = .ok (.aload_n 0, 1) := by decide +kernel
theorem dX12_door__1 : decode cX12_door_ 1 = .ok (.iload_n 1, 1) := by decide +kernel
theorem dX12_door__2 : decode cX12_door_ 2 = .ok (.invokevirtual 507, 3) := by decide +kernel
theorem dX12_door__5 : decode cX12_door_ 5 = .ok (.ifCond .ne 5, 3) := by decide +kernel
theorem dX12_door__8 : decode cX12_door_ 8 = .ok (.iconst (-1), 1) := by decide +kernel
theorem dX12_door__9 : decode cX12_door_ 9 = .ok (.ireturn, 1) := by decide +kernel
theorem dX12_key__0 : decode cX12_key_ 0 = .ok (.aload_n 0, 1) := by decide +kernel
theorem dX12_key__1 : decode cX12_key_ 1 = .ok (.iload_n 1, 1) := by decide +kernel
theorem dX12_key__2 : decode cX12_key_ 2 = .ok (.invokevirtual 510, 3) := by decide +kernel
theorem dX12_key__5 : decode cX12_key_ 5 = .ok (.ifCond .ne 7, 3) := by decide +kernel
theorem dX12_key__8 : decode cX12_key_ 8 = .ok (.iconst (-1), 1) := by decide +kernel
theorem dX12_key__9 : decode cX12_key_ 9 = .ok (.goto 52, 3) := by decide +kernel
theorem dX12_key__61 : decode cX12_key_ 61 = .ok (.ireturn, 1) := by decide +kernel
theorem dX12_in_0 : decode cX12_in 0 = .ok (.aload_n 0, 1) := by decide +kernel
theorem dX12_in_1 : decode cX12_in 1 = .ok (.iload_n 1, 1) := by decide +kernel
theorem dX12_in_2 : decode cX12_in 2 = .ok (.invokevirtual 510, 3) := by decide +kernel
theorem dX12_in_5 : decode cX12_in 5 = .ok (.ifCond .eq 23, 3) := by decide +kernel
theorem dX12_in_28 : decode cX12_in 28 = .ok (.iconst (-1), 1) := by decide +kernel
theorem dX12_in_29 : decode cX12_in 29 = .ok (.goto 18, 3) := by decide +kernel
theorem dX12_in_47 : decode cX12_in 47 = .ok (.ireturn, 1) := by decide +kernel
theorem dX12_go_0 : decode cX12_go 0 = .ok (.aload_n 0, 1) := by decide +kernel
theorem dX12_go_1 : decode cX12_go 1 = .ok (.iload_n 1, 1) := by decide +kernel
theorem dX12_go_2 : decode cX12_go 2 = .ok (.invokevirtual 539, 3) := by decide +kernel
theorem dX12_go_5 : decode cX12_go 5 = .ok (.ifCond .eq 20, 3) := by decide +kernel
theorem dX12_go_25 : decode cX12_go 25 = .ok (.iconst (-1), 1) := by decide +kernel
theorem dX12_go_26 : decode cX12_go 26 = .ok (.istore_n 3, 1) := by decide +kernel
theorem dX12_go_27 : decode cX12_go 27 = .ok (.iload_n 3, 1) := by decide +kernel
theorem dX12_go_28 : decode cX12_go 28 = .ok (.iconst (-1), 1) := by decide +kernel
theorem dX12_go_29 : decode cX12_go 29 = .ok (.if_icmp .ne 11, 3) := by decide +kernel
theorem dX12_go_32 : decode cX12_go 32 = .ok (.aload_n 0, 1) := by decide +kernel
theorem dX12_go_33 : decode cX12_go 33 = .ok (.iconst 2, 1) := by decide +kernel
theorem dX12_go_34 : decode cX12_go 34 = .ok (.invokevirtual 271, 3) := by decide +kernel
theorem dX12_go_37 : decode cX12_go 37 = .ok (.goto 4, 3) := by decide +kernel
theorem dX12_go_41 : decode cX12_go 41 = .ok (.ireturn, 1) := by decide +kernel
theorem dX12_open_0 : decode cX12_open 0 = .ok (.aload_n 0, 1) := by decide +kernel
theorem dX12_open_1 : decode cX12_open 1 = .ok (.iload_n 1, 1) := by decide +kernel
theorem dX12_open_2 : decode cX12_open 2 = .ok (.invokevirtual 539, 3) := by decide +kernel
theorem dX12_open_5 : decode cX12_open 5 = .ok (.ifCond .eq 20, 3) := by decide +kernel
theorem dX12_open_25 : decode cX12_open 25 = .ok (.iconst (-1), 1) := by decide +kernel
theorem dX12_open_26 : decode cX12_open 26 = .ok (.istore_n 3, 1) := by decide +kernel
theorem dX12_open_27 : decode cX12_open 27 = .ok (.iload_n 3, 1) := by decide +kernel
theorem dX12_open_28 : decode cX12_open 28 = .ok (.iconst (-1), 1) := by decide +kernel
theorem dX12_open_29 : decode cX12_open 29 = .ok (.if_icmp .ne 11, 3) := by decide +kernel
theorem dX12_open_32 : decode cX12_open 32 = .ok (.aload_n 0, 1) := by decide +kernel
theorem dX12_open_33 : decode cX12_open 33 = .ok (.iconst 2, 1) := by decide +kernel
theorem dX12_open_34 : decode cX12_open 34 = .ok (.invokevirtual 271, 3) := by decide +kernel
theorem dX12_open_37 : decode cX12_open 37 = .ok (.goto 4, 3) := by decide +kernel
theorem dX12_open_41 : decode cX12_open 41 = .ok (.ireturn, 1) := by decide +kernel
theorem dX12_shut_0 : decode cX12_shut 0 = .ok (.aload_n 0, 1) := by decide +kernel
theorem dX12_shut_1 : decode cX12_shut 1 = .ok (.iload_n 1, 1) := by decide +kernel
theorem dX12_shut_2 : decode cX12_shut 2 = .ok (.invokevirtual 539, 3) := by decide +kernel
theorem dX12_shut_5 : decode cX12_shut 5 = .ok (.ifCond .eq 29, 3) := by decide +kernel
theorem dX12_shut_34 : decode cX12_shut 34 = .ok (.iconst (-1), 1) := by decide +kernel
theorem dX12_shut_35 : decode cX12_shut 35 = .ok (.istore 4, 2) := by decide +kernel
theorem dX12_shut_37 : decode cX12_shut 37 = .ok (.iload 4, 2) := by decide +kernel
theorem dX12_shut_39 : decode cX12_shut 39 = .ok (.iconst (-1), 1) := by decide +kernel
theorem dX12_shut_40 : decode cX12_shut 40 = .ok (.if_icmp .ne 11, 3) := by decide +kernel
theorem dX12_shut_43 : decode cX12_shut 43 = .ok (.aload_n 0, 1) := by decide +kernel
theorem dX12_shut_44 : decode cX12_shut 44 = .ok (.iconst 2, 1) := by decide +kernel
