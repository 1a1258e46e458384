theorem dX11_letter_0 : decode cX11_letter 0 = .ok (.iload_n 1, 1) := by decide +kernel
theorem dX11_letter_1 : decode cX11_letter 1 = .ok (.ifCond .lt 30, 3) := by decide +kernel
theorem dX11_letter_4 : decode cX11_letter 4 = .ok (.iload_n 1, 1) := by decide +kernel
theorem dX11_letter_5 : decode cX11_letter 5 = .ok (.iconst 5, 1) := by decide +kernel
theorem dX11_letter_6 : decode cX11_letter 6 = .ok (.if_icmp .ge 25, 3) := by decide +kernel
theorem dX11_letter_9 : decode cX11_letter 9 = .ok (.aload_n 0, 1) := by decide +kernel
theorem dX11_letter_10 : decode cX11_letter 10 = .ok (.getfield 74, 3) := by decide +kernel
theorem dX11_letter_13 : decode cX11_letter 13 = .ok (.iload_n 1, 1) := by decide +kernel
theorem dX11_letter_14 : decode cX11_letter 14 = .ok (.iload_n 2, 1) := by decide +kernel
theorem dX11_letter_15 : decode cX11_letter 15 = .ok (.invokevirtual 125, 3) := by decide +kernel
theorem dX11_letter_18 : decode cX11_letter 18 = .ok (.ifCond .eq 13, 3) := by decide +kernel
theorem dX11_letter_21 : decode cX11_letter 21 = .ok (.iload_n 3, 1) := by decide +kernel
theorem dX11_letter_22 : decode cX11_letter 22 = .ok (.ifCond .lt 9, 3) := by decide +kernel
theorem dX11_letter_25 : decode cX11_letter 25 = .ok (.iload_n 3, 1) := by decide +kernel
theorem dX11_letter_26 : decode cX11_letter 26 = .ok (.bipush 6, 2) := by decide +kernel
theorem dX11_letter_28 : decode cX11_letter 28 = .ok (.if_icmp .lt 5, 3) := by decide +kernel
theorem dX11_letter_31 : decode cX11_letter 31 = .ok (.iconst (-1), 1) := by decide +kernel
theorem dX11_letter_32 : decode cX11_letter 32 = .ok (.ireturn, 1) := by decide +kernel
theorem dX11_letter_33 : decode cX11_letter 33 = .ok (.aload_n 0, 1) := by decide +kernel
theorem dX11_letter_34 : decode cX11_letter 34 = .ok (.getfield 74, 3) := by decide +kernel
theorem dX11_letter_37 : decode cX11_letter 37 = .ok (.getfield 129, 3) := by decide +kernel
theorem dX11_letter_40 : decode cX11_letter 40 = .ok (.iload_n 1, 1) := by decide +kernel
theorem dX11_letter_41 : decode cX11_letter 41 = .ok (.aaload, 1) := by decide +kernel
theorem dX11_letter_42 : decode cX11_letter 42 = .ok (.iload_n 2, 1) := by decide +kernel
theorem dX11_letter_43 : decode cX11_letter 43 = .ok (.iaload, 1) := by decide +kernel
theorem dX11_letter_44 : decode cX11_letter 44 = .ok (.iconst 5, 1) := by decide +kernel
theorem dX11_letter_45 : decode cX11_letter 45 = .ok (.iload_n 3, 1) := by decide +kernel
theorem dX11_letter_46 : decode cX11_letter 46 = .ok (.imul, 1) := by decide +kernel
theorem dX11_letter_47 : decode cX11_letter 47 = .ok (.ishr, 1) := by decide +kernel
theorem dX11_letter_48 : decode cX11_letter 48 = .ok (.bipush 31, 2) := by decide +kernel
theorem dX11_letter_50 : decode cX11_letter 50 = .ok (.iand, 1) := by decide +kernel
theorem dX11_letter_51 : decode cX11_letter 51 = .ok (.istore 4, 2) := by decide +kernel
theorem dX11_letter_53 : decode cX11_letter 53 = .ok (.iload 4, 2) := by decide +kernel
theorem dX11_letter_55 : decode cX11_letter 55 = .ok (.ifCond .ne 7, 3) := by decide +kernel
theorem dX11_letter_58 : decode cX11_letter 58 = .ok (.iconst (-1), 1) := by decide +kernel
theorem dX11_letter_59 : decode cX11_letter 59 = .ok (.goto 8, 3) := by decide +kernel
theorem dX11_letter_62 : decode cX11_letter 62 = .ok (.iload 4, 2) := by decide +kernel
theorem dX11_letter_64 : decode cX11_letter 64 = .ok (.bipush 96, 2) := by decide +kernel
theorem dX11_letter_66 : decode cX11_letter 66 = .ok (.iadd, 1) := by decide +kernel
theorem dX11_letter_67 : decode cX11_letter 67 = .ok (.ireturn, 1) := by decide +kernel
theorem dX11_door_0 : decode cX11_door 0 = .ok (.aload_n 0, 1) := by decide +kernel
theorem dX11_door_1 : decode cX11_door 1 = .ok (.getfield 74, 3) := by decide +kernel
theorem dX11_door_4 : decode cX11_door 4 = .ok (.iconst 1, 1) := by decide +kernel
theorem dX11_door_5 : decode cX11_door 5 = .ok (.iload_n 1, 1) := by decide +kernel
theorem dX11_door_6 : decode cX11_door 6 = .ok (.invokevirtual 125, 3) := by decide +kernel
theorem dX11_door_9 : decode cX11_door 9 = .ok (.ifCond .ne 5, 3) := by decide +kernel
theorem dX11_door_12 : decode cX11_door 12 = .ok (.iconst (-1), 1) := by decide +kernel
theorem dX11_door_13 : decode cX11_door 13 = .ok (.ireturn, 1) := by decide +kernel
theorem dX11_door_14 : decode cX11_door 14 = .ok (.iload_n 2, 1) := by decide +kernel
theorem dX11_door_15 : decode cX11_door 15 = .ok (.tableswitch 137 0 7 #[45, 55, 65, 82, 92, 104, 113, 125], 45) := by decide +kernel
theorem dX11_door_60 : decode cX11_door 60 = .ok (.aload_n 0, 1) := by decide +kernel
theorem dX11_door_61 : decode cX11_door 61 = .ok (.getfield 74, 3) := by decide +kernel
theorem dX11_door_64 : decode cX11_door 64 = .ok (.getfield 133, 3) := by decide +kernel
theorem dX11_door_67 : decode cX11_door 67 = .ok (.iload_n 1, 1) := by decide +kernel
theorem dX11_door_68 : decode cX11_door 68 = .ok (.iaload, 1) := by decide +kernel
theorem dX11_door_69 : decode cX11_door 69 = .ok (.ireturn, 1) := by decide +kernel
theorem dX11_door_70 : decode cX11_door 70 = .ok (.aload_n 0, 1) := by decide +kernel
theorem dX11_door_71 : decode cX11_door 71 = .ok (.getfield 74, 3) := by decide +kernel
theorem dX11_door_74 : decode cX11_door 74 = .ok (.getfield 136, 3) := by decide +kernel
theorem dX11_door_77 : decode cX11_door 77 = .ok (.iload_n 1, 1) := by decide +kernel
theorem dX11_door_78 : decode cX11_door 78 = .ok (.iaload, 1) := by decide +kernel
theorem dX11_door_79 : decode cX11_door 79 = .ok (.ireturn, 1) := by decide +kernel
theorem dX11_door_80 : decode cX11_door 80 = .ok (.aload_n 0, 1) := by decide +kernel
theorem dX11_door_81 : decode cX11_door 81 = .ok (.getfield 74, 3) := by decide +kernel
theorem dX11_door_84 : decode cX11_door 84 = .ok (.iload_n 1, 1) := by decide +kernel
theorem dX11_door_85 : decode cX11_door 85 = .ok (.invokevirtual 139, 3) := by decide +kernel
theorem dX11_door_88 : decode cX11_door 88 = .ok (.ifCond .eq 7, 3) := by decide +kernel
theorem dX11_door_91 : decode cX11_door 91 = .ok (.iconst 1, 1) := by decide +kernel
theorem dX11_door_92 : decode cX11_door 92 = .ok (.goto 4, 3) := by decide +kernel
theorem dX11_door_95 : decode cX11_door 95 = .ok (.iconst 0, 1) := by decide +kernel
theorem dX11_door_96 : decode cX11_door 96 = .ok (.ireturn, 1) := by decide +kernel
theorem dX11_door_97 : decode cX11_door 97 = .ok (.aload_n 0, 1) := by decide +kernel
theorem dX11_door_98 : decode cX11_door 98 = .ok (.getfield 74, 3) := by decide +kernel
theorem dX11_door_101 : decode cX11_door 101 = .ok (.getfield 143, 3) := by decide +kernel
theorem dX11_door_104 : decode cX11_door 104 = .ok (.iload_n 1, 1) := by decide +kernel
theorem dX11_door_105 : decode cX11_door 105 = .ok (.iaload, 1) := by decide +kernel
theorem dX11_door_106 : decode cX11_door 106 = .ok (.ireturn, 1) := by decide +kernel
theorem dX11_door_107 : decode cX11_door 107 = .ok (.aload_n 0, 1) := by decide +kernel
theorem dX11_door_108 : decode cX11_door 108 = .ok (.getfield 74, 3) := by decide +kernel
theorem dX11_door_111 : decode cX11_door 111 = .ok (.invokevirtual 110, 3) := by decide +kernel
theorem dX11_door_114 : decode cX11_door 114 = .ok (.iload_n 1, 1) := by decide +kernel
theorem dX11_door_115 : decode cX11_door 115 = .ok (.ishr, 1) := by decide +kernel
theorem dX11_door_116 : decode cX11_door 116 = .ok (.iconst 1, 1) := by decide +kernel
theorem dX11_door_117 : decode cX11_door 117 = .ok (.iand, 1) := by decide +kernel
theorem dX11_door_118 : decode cX11_door 118 = .ok (.ireturn, 1) := by decide +kernel
theorem dX11_door_119 : decode cX11_door 119 = .ok (.aload_n 0, 1) := by decide +kernel
theorem dX11_door_120 : decode cX11_door 120 = .ok (.getfield 74, 3) := by decide +kernel
theorem dX11_door_123 : decode cX11_door 123 = .ok (.iload_n 1, 1) := by decide +kernel
theorem dX11_door_124 : decode cX11_door 124 = .ok (.invokevirtual 146, 3) := by decide +kernel
theorem dX11_door_127 : decode cX11_door 127 = .ok (.ireturn, 1) := by decide +kernel
theorem dX11_door_128 : decode cX11_door 128 = .ok (.aload_n 0, 1) := by decide +kernel
theorem dX11_door_129 : decode cX11_door 129 = .ok (.getfield 74, 3) := by decide +kernel
theorem dX11_door_132 : decode cX11_door 132 = .ok (.getfield 149, 3) := by decide +kernel
theorem dX11_door_135 : decode cX11_door 135 = .ok (.iload_n 1, 1) := by decide +kernel
theorem dX11_door_136 : decode cX11_door 136 = .ok (.ishr, 1) := by decide +kernel
theorem dX11_door_137 : decode cX11_door 137 = .ok (.iconst 1, 1) := by decide +kernel
theorem dX11_door_138 : decode cX11_door 138 = .ok (.iand, 1) := by decide +kernel
theorem dX11_door_139 : decode cX11_door 139 = .ok (.ireturn, 1) := by decide +kernel
theorem dX11_door_140 : decode cX11_door 140 = .ok (.aload_n 0, 1) := by decide +kernel
theorem dX11_door_141 : decode cX11_door 141 = .ok (.getfield 74, 3) := by decide +kernel
theorem dX11_door_144 : decode cX11_door 144 = .ok (.invokevirtual 119, 3) := by decide +kernel
theorem dX11_door_147 : decode cX11_door 147 = .ok (.iload_n 1, 1) := by decide +kernel
theorem dX11_door_148 : decode cX11_door 148 = .ok (.ishr, 1) := by decide +kernel
theorem dX11_door_149 : decode cX11_door 149 = .ok (.iconst 1, 1) := by decide +kernel
theorem dX11_door_150 : decode cX11_door 150 = .ok (.iand, 1) := by decide +kernel
theorem dX11_door_151 : decode cX11_door 151 = .ok (.ireturn, 1) := by decide +kernel
theorem dX11_door_152 : decode cX11_door 152 = .ok (.iconst (-1), 1) := by decide +kernel
theorem dX11_door_153 : decode cX11_door 153 = .ok (.ireturn, 1) := by decide +kernel
theorem dX11_key_0 : decode cX11_key 0 = .ok (.aload_n 0, 1) := by decide +kernel
theorem dX11_key_1 : decode cX11_key 1 = .ok (.getfield 74, 3) := by decide +kernel
theorem dX11_key_4 : decode cX11_key 4 = .ok (.iconst 2, 1) := by decide +kernel
theorem dX11_key_5 : decode cX11_key 5 = .ok (.iload_n 1, 1) := by decide +kernel
theorem dX11_key_6 : decode cX11_key 6 = .ok (.invokevirtual 125, 3) := by decide +kernel
theorem dX11_key_9 : decode cX11_key 9 = .ok (.ifCond .ne 5, 3) := by decide +kernel
theorem dX11_key_12 : decode cX11_key 12 = .ok (.iconst (-1), 1) := by decide +kernel
theorem dX11_key_13 : decode cX11_key 13 = .ok (.ireturn, 1) := by decide +kernel
theorem dX11_key_14 : decode cX11_key 14 = .ok (.iload_n 2, 1) := by decide +kernel
theorem dX11_key_15 : decode cX11_key 15 = .ok (.tableswitch 63 0 2 #[25, 38, 51], 25) := by decide +kernel
theorem dX11_key_40 : decode cX11_key 40 = .ok (.aload_n 0, 1) := by decide +kernel
theorem dX11_key_41 : decode cX11_key 41 = .ok (.getfield 74, 3) := by decide +kernel
theorem dX11_key_44 : decode cX11_key 44 = .ok (.getfield 152, 3) := by decide +kernel
theorem dX11_key_47 : decode cX11_key 47 = .ok (.getfield 155, 3) := by decide +kernel
theorem dX11_key_50 : decode cX11_key 50 = .ok (.iload_n 1, 1) := by decide +kernel
theorem dX11_key_51 : decode cX11_key 51 = .ok (.iaload, 1) := by decide +kernel
theorem dX11_key_52 : decode cX11_key 52 = .ok (.ireturn, 1) := by decide +kernel
theorem dX11_key_53 : decode cX11_key 53 = .ok (.aload_n 0, 1) := by decide +kernel
theorem dX11_key_54 : decode cX11_key 54 = .ok (.getfield 74, 3) := by decide +kernel
theorem dX11_key_57 : decode cX11_key 57 = .ok (.getfield 152, 3) := by decide +kernel
theorem dX11_key_60 : decode cX11_key 60 = .ok (.getfield 158, 3) := by decide +kernel
theorem dX11_key_63 : decode cX11_key 63 = .ok (.iload_n 1, 1) := by decide +kernel
theorem dX11_key_64 : decode cX11_key 64 = .ok (.iaload, 1) := by decide +kernel
theorem dX11_key_65 : decode cX11_key 65 = .ok (.ireturn, 1) := by decide +kernel
theorem dX11_key_66 : decode cX11_key 66 = .ok (.aload_n 0, 1) := by decide +kernel
theorem dX11_key_67 : decode cX11_key 67 = .ok (.getfield 74, 3) := by decide +kernel
theorem dX11_key_70 : decode cX11_key 70 = .ok (.getfield 152, 3) := by decide +kernel
theorem dX11_key_73 : decode cX11_key 73 = .ok (.iload_n 1, 1) := by decide +kernel
theorem dX11_key_74 : decode cX11_key 74 = .ok (.invokevirtual 161, 3) := by decide +kernel
theorem dX11_key_77 : decode cX11_key 77 = .ok (.ireturn, 1) := by decide +kernel
theorem dX11_key_78 : decode cX11_key 78 = .ok (.iconst (-1), 1) := by decide +kernel
theorem dX11_key_79 : decode cX11_key 79 = .ok (.ireturn, 1) := by decide +kernel
theorem dX11_in_0 : decode cX11_in 0 = .ok (.aload_n 0, 1) := by decide +kernel
theorem dX11_in_1 : decode cX11_in 1 = .ok (.getfield 74, 3) := by decide +kernel
theorem dX11_in_4 : decode cX11_in 4 = .ok (.iconst 2, 1) := by decide +kernel
theorem dX11_in_5 : decode cX11_in 5 = .ok (.iload_n 1, 1) := by decide +kernel
theorem dX11_in_6 : decode cX11_in 6 = .ok (.invokevirtual 125, 3) := by decide +kernel
theorem dX11_in_9 : decode cX11_in 9 = .ok (.ifCond .ne 5, 3) := by decide +kernel
theorem dX11_in_12 : decode cX11_in 12 = .ok (.iconst (-1), 1) := by decide +kernel
theorem dX11_in_13 : decode cX11_in 13 = .ok (.ireturn, 1) := by decide +kernel
theorem dX11_in_14 : decode cX11_in 14 = .ok (.aload_n 0, 1) := by decide +kernel
theorem dX11_in_15 : decode cX11_in 15 = .ok (.getfield 74, 3) := by decide +kernel
theorem dX11_in_18 : decode cX11_in 18 = .ok (.getfield 152, 3) := by decide +kernel
theorem dX11_in_21 : decode cX11_in 21 = .ok (.iload_n 1, 1) := by decide +kernel
theorem dX11_in_22 : decode cX11_in 22 = .ok (.iload_n 2, 1) := by decide +kernel
theorem dX11_in_23 : decode cX11_in 23 = .ok (.invokevirtual 164, 3) := by decide +kernel
theorem dX11_in_26 : decode cX11_in 26 = .ok (.ireturn, 1) := by decide +kernel
theorem dX11_person_0 : decode cX11_person 0 = .ok (.aload_n 0, 1) := by decide +kernel
theorem dX11_person_1 : decode cX11_person 1 = .ok (.getfield 74, 3) := by decide +kernel
theorem dX11_person_4 : decode cX11_person 4 = .ok (.iconst 3, 1) := by decide +kernel
theorem dX11_person_5 : decode cX11_person 5 = .ok (.iload_n 1, 1) := by decide +kernel
theorem dX11_person_6 : decode cX11_person 6 = .ok (.invokevirtual 125, 3) := by decide +kernel
theorem dX11_person_9 : decode cX11_person 9 = .ok (.ifCond .ne 5, 3) := by decide +kernel
theorem dX11_person_12 : decode cX11_person 12 = .ok (.iconst (-1), 1) := by decide +kernel
theorem dX11_person_13 : decode cX11_person 13 = .ok (.ireturn, 1) := by decide +kernel
theorem dX11_person_14 : decode cX11_person 14 = .ok (.iload_n 2, 1) := by decide +kernel
theorem dX11_person_15 : decode cX11_person 15 = .ok (.tableswitch 80 0 3 #[29, 42, 51, 67], 29) := by decide +kernel
theorem dX11_person_44 : decode cX11_person 44 = .ok (.aload_n 0, 1) := by decide +kernel
theorem dX11_person_45 : decode cX11_person 45 = .ok (.getfield 74, 3) := by decide +kernel
theorem dX11_person_48 : decode cX11_person 48 = .ok (.getfield 152, 3) := by decide +kernel
theorem dX11_person_51 : decode cX11_person 51 = .ok (.getfield 168, 3) := by decide +kernel
theorem dX11_person_54 : decode cX11_person 54 = .ok (.iload_n 1, 1) := by decide +kernel
theorem dX11_person_55 : decode cX11_person 55 = .ok (.iaload, 1) := by decide +kernel
theorem dX11_person_56 : decode cX11_person 56 = .ok (.ireturn, 1) := by decide +kernel
theorem dX11_person_57 : decode cX11_person 57 = .ok (.aload_n 0, 1) := by decide +kernel
theorem dX11_person_58 : decode cX11_person 58 = .ok (.getfield 74, 3) := by decide +kernel
theorem dX11_person_61 : decode cX11_person 61 = .ok (.iload_n 1, 1) := by decide +kernel
theorem dX11_person_62 : decode cX11_person 62 = .ok (.invokevirtual 171, 3) := by decide +kernel
theorem dX11_person_65 : decode cX11_person 65 = .ok (.ireturn, 1) := by decide +kernel
theorem dX11_person_66 : decode cX11_person 66 = .ok (.aload_n 0, 1) := by decide +kernel
theorem dX11_person_67 : decode cX11_person 67 = .ok (.getfield 28, 3) := by decide +kernel
theorem dX11_person_70 : decode cX11_person 70 = .ok (.aload_n 0, 1) := by decide +kernel
theorem dX11_person_71 : decode cX11_person 71 = .ok (.getfield 74, 3) := by decide +kernel
theorem dX11_person_74 : decode cX11_person 74 = .ok (.iload_n 1, 1) := by decide +kernel
theorem dX11_person_75 : decode cX11_person 75 = .ok (.invokevirtual 174, 3) := by decide +kernel
theorem dX11_person_78 : decode cX11_person 78 = .ok (.invokestatic 114, 3) := by decide +kernel
theorem dX11_person_81 : decode cX11_person 81 = .ok (.ireturn, 1) := by decide +kernel
theorem dX11_person_82 : decode cX11_person 82 = .ok (.aload_n 0, 1) := by decide +kernel
theorem dX11_person_83 : decode cX11_person 83 = .ok (.getfield 28, 3) := by decide +kernel
theorem dX11_person_86 : decode cX11_person 86 = .ok (.aload_n 0, 1) := by decide +kernel
theorem dX11_person_87 : decode cX11_person 87 = .ok (.getfield 74, 3) := by decide +kernel
theorem dX11_person_90 : decode cX11_person 90 = .ok (.iload_n 1, 1) := by decide +kernel
theorem dX11_person_91 : decode cX11_person 91 = .ok (.invokevirtual 174, 3) := by decide +kernel
theorem dX11_person_94 : decode cX11_person 94 = .ok (.ireturn, 1) := by decide +kernel
theorem dX11_person_95 : decode cX11_person 95 = .ok (.iconst (-1), 1) := by decide +kernel
theorem dX11_person_96 : decode cX11_person 96 = .ok (.ireturn, 1) := by decide +kernel
theorem dX11_go_0 : decode cX11_go 0 = .ok (.aload_n 0, 1) := by decide +kernel
theorem dX11_go_1 : decode cX11_go 1 = .ok (.aload_n 0, 1) := by decide +kernel
theorem dX11_go_2 : decode cX11_go 2 = .ok (.getfield 74, 3) := by decide +kernel
theorem dX11_go_5 : decode cX11_go 5 = .ok (.iload_n 1, 1) := by decide +kernel
theorem dX11_go_6 : decode cX11_go 6 = .ok (.iload_n 2, 1) := by decide +kernel
theorem dX11_go_7 : decode cX11_go 7 = .ok (.invokevirtual 178, 3) := by decide +kernel
theorem dX11_go_10 : decode cX11_go 10 = .ok (.invokevirtual 181, 3) := by decide +kernel
theorem dX11_go_13 : decode cX11_go 13 = .ok (.ireturn, 1) := by decide +kernel
theorem dX11_open_0 : decode cX11_open 0 = .ok (.aload_n 0, 1) := by decide +kernel
theorem dX11_open_1 : decode cX11_open 1 = .ok (.aload_n 0, 1) := by decide +kernel
theorem dX11_open_2 : decode cX11_open 2 = .ok (.getfield 74, 3) := by decide +kernel
theorem dX11_open_5 : decode cX11_open 5 = .ok (.iload_n 1, 1) := by decide +kernel
theorem dX11_open_6 : decode cX11_open 6 = .ok (.iload_n 2, 1) := by decide +kernel
theorem dX11_open_7 : decode cX11_open 7 = .ok (.invokevirtual 184, 3) := by decide +kernel
theorem dX11_open_10 : decode cX11_open 10 = .ok (.invokevirtual 181, 3) := by decide +kernel
theorem dX11_open_13 : decode cX11_open 13 = .ok (.ireturn, 1) := by decide +kernel
theorem dX11_shut_0 : decode cX11_shut 0 = .ok (.aload_n 0, 1) := by decide +kernel
theorem dX11_shut_1 : decode cX11_shut 1 = .ok (.aload_n 0, 1) := by decide +kernel
theorem dX11_shut_2 : decode cX11_shut 2 = .ok (.getfield 74, 3) := by decide +kernel
theorem dX11_shut_5 : decode cX11_shut 5 = .ok (.iload_n 1, 1) := by decide +kernel
theorem dX11_shut_6 : decode cX11_shut 6 = .ok (.iload_n 2, 1) := by decide +kernel
theorem dX11_shut_7 : decode cX11_shut 7 = .ok (.iload_n 3, 1) := by decide +kernel
theorem dX11_shut_8 : decode cX11_shut 8 = .ok (.invokevirtual 187, 3) := by decide +kernel
theorem dX11_shut_11 : decode cX11_shut 11 = .ok (.invokevirtual 181, 3) := by decide +kernel
theorem dX11_shut_14 : decode cX11_shut 14 = .ok (.ireturn, 1) := by decide +kernel
theorem dX11_lend_0 : decode cX11_lend 0 = .ok (.aload_n 0, 1) := by decide +kernel
theorem dX11_lend_1 : decode cX11_lend 1 = .ok (.aload_n 0, 1) := by decide +kernel
theorem dX11_lend_2 : decode cX11_lend 2 = .ok (.getfield 74, 3) := by decide +kernel
theorem dX11_lend_5 : decode cX11_lend 5 = .ok (.iload_n 1, 1) := by decide +kernel
theorem dX11_lend_6 : decode cX11_lend 6 = .ok (.iload_n 2, 1) := by decide +kernel
theorem dX11_lend_7 : decode cX11_lend 7 = .ok (.iload_n 3, 1) := by decide +kernel
theorem dX11_lend_8 : decode cX11_lend 8 = .ok (.invokevirtual 191, 3) := by decide +kernel
theorem dX11_lend_11 : decode cX11_lend 11 = .ok (.invokevirtual 195, 3) := by decide +kernel
theorem dX11_lend_14 : decode cX11_lend 14 = .ok (.ireturn, 1) := by decide +kernel
theorem dX11_take_0 : decode cX11_take 0 = .ok (.aload_n 0, 1) := by decide +kernel
theorem dX11_take_1 : decode cX11_take 1 = .ok (.aload_n 0, 1) := by decide +kernel
theorem dX11_take_2 : decode cX11_take 2 = .ok (.getfield 74, 3) := by decide +kernel
theorem dX11_take_5 : decode cX11_take 5 = .ok (.iload_n 1, 1) := by decide +kernel
theorem dX11_take_6 : decode cX11_take 6 = .ok (.iload_n 2, 1) := by decide +kernel
theorem dX11_take_7 : decode cX11_take 7 = .ok (.invokevirtual 199, 3) := by decide +kernel
theorem dX11_take_10 : decode cX11_take 10 = .ok (.invokevirtual 195, 3) := by decide +kernel
theorem dX11_take_13 : decode cX11_take 13 = .ok (.ireturn, 1) := by decide +kernel
theorem dX11_lay_0 : decode cX11_lay 0 = .ok (.aload_n 0, 1) := by decide +kernel
theorem dX11_lay_1 : decode cX11_lay 1 = .ok (.aload_n 0, 1) := by decide +kernel
theorem dX11_lay_2 : decode cX11_lay 2 = .ok (.getfield 74, 3) := by decide +kernel
theorem dX11_lay_5 : decode cX11_lay 5 = .ok (.iload_n 1, 1) := by decide +kernel
theorem dX11_lay_6 : decode cX11_lay 6 = .ok (.iload_n 2, 1) := by decide +kernel
theorem dX11_lay_7 : decode cX11_lay 7 = .ok (.iload_n 3, 1) := by decide +kernel
theorem dX11_lay_8 : decode cX11_lay 8 = .ok (.invokevirtual 202, 3) := by decide +kernel
theorem dX11_lay_11 : decode cX11_lay 11 = .ok (.invokevirtual 195, 3) := by decide +kernel
theorem dX11_lay_14 : decode cX11_lay 14 = .ok (.ireturn, 1) := by decide +kernel
theorem dX11_snap_0 : decode cX11_snap 0 = .ok (.aload_n 0, 1) := by decide +kernel
theorem dX11_snap_1 : decode cX11_snap 1 = .ok (.getfield 74, 3) := by decide +kernel
theorem dX11_snap_4 : decode cX11_snap 4 = .ok (.iconst 2, 1) := by decide +kernel
theorem dX11_snap_5 : decode cX11_snap 5 = .ok (.iload_n 1, 1) := by decide +kernel
theorem dX11_snap_6 : decode cX11_snap 6 = .ok (.invokevirtual 125, 3) := by decide +kernel
theorem dX11_snap_9 : decode cX11_snap 9 = .ok (.ifCond .eq 20, 3) := by decide +kernel
theorem dX11_snap_12 : decode cX11_snap 12 = .ok (.aload_n 0, 1) := by decide +kernel
theorem dX11_snap_13 : decode cX11_snap 13 = .ok (.getfield 74, 3) := by decide +kernel
theorem dX11_snap_16 : decode cX11_snap 16 = .ok (.getfield 152, 3) := by decide +kernel
theorem dX11_snap_19 : decode cX11_snap 19 = .ok (.getfield 155, 3) := by decide +kernel
theorem dX11_snap_22 : decode cX11_snap 22 = .ok (.iload_n 1, 1) := by decide +kernel
theorem dX11_snap_23 : decode cX11_snap 23 = .ok (.iaload, 1) := by decide +kernel
theorem dX11_snap_24 : decode cX11_snap 24 = .ok (.bipush 40, 2) := by decide +kernel
theorem dX11_snap_26 : decode cX11_snap 26 = .ok (.if_icmp .ne 9, 3) := by decide +kernel
theorem dX11_snap_29 : decode cX11_snap 29 = .ok (.aload_n 0, 1) := by decide +kernel
theorem dX11_snap_30 : decode cX11_snap 30 = .ok (.iconst 3, 1) := by decide +kernel
theorem dX11_snap_31 : decode cX11_snap 31 = .ok (.invokevirtual 85, 3) := by decide +kernel
theorem dX11_snap_34 : decode cX11_snap 34 = .ok (.ireturn, 1) := by decide +kernel
theorem dX11_snap_35 : decode cX11_snap 35 = .ok (.aload_n 0, 1) := by decide +kernel
theorem dX11_snap_36 : decode cX11_snap 36 = .ok (.getfield 74, 3) := by decide +kernel
theorem dX11_snap_39 : decode cX11_snap 39 = .ok (.getfield 152, 3) := by decide +kernel
theorem dX11_snap_42 : decode cX11_snap 42 = .ok (.getfield 155, 3) := by decide +kernel
theorem dX11_snap_45 : decode cX11_snap 45 = .ok (.iload_n 1, 1) := by decide +kernel
theorem dX11_snap_46 : decode cX11_snap 46 = .ok (.bipush 40, 2) := by decide +kernel
theorem dX11_snap_48 : decode cX11_snap 48 = .ok (.iastore, 1) := by decide +kernel
theorem dX11_snap_49 : decode cX11_snap 49 = .ok (.aload_n 0, 1) := by decide +kernel
theorem dX11_snap_50 : decode cX11_snap 50 = .ok (.getfield 74, 3) := by decide +kernel
theorem dX11_snap_53 : decode cX11_snap 53 = .ok (.getfield 152, 3) := by decide +kernel
theorem dX11_snap_56 : decode cX11_snap 56 = .ok (.getfield 158, 3) := by decide +kernel
theorem dX11_snap_59 : decode cX11_snap 59 = .ok (.iload_n 1, 1) := by decide +kernel
theorem dX11_snap_60 : decode cX11_snap 60 = .ok (.iaload, 1) := by decide +kernel
theorem dX11_snap_61 : decode cX11_snap 61 = .ok (.ireturn, 1) := by decide +kernel
theorem dX11_row_0 : decode cX11_row 0 = .ok (.aload_n 0, 1) := by decide +kernel
theorem dX11_row_1 : decode cX11_row 1 = .ok (.getfield 63, 3) := by decide +kernel
theorem dX11_row_4 : decode cX11_row 4 = .ok (.aload_n 0, 1) := by decide +kernel
theorem dX11_row_5 : decode cX11_row 5 = .ok (.getfield 74, 3) := by decide +kernel
theorem dX11_row_8 : decode cX11_row 8 = .ok (.getfield 152, 3) := by decide +kernel
theorem dX11_row_11 : decode cX11_row 11 = .ok (.invokevirtual 205, 3) := by decide +kernel
theorem dX11_row_14 : decode cX11_row 14 = .ok (.aload_n 0, 1) := by decide +kernel
theorem dX11_row_15 : decode cX11_row 15 = .ok (.invokevirtual 209, 3) := by decide +kernel
theorem dX11_row_18 : decode cX11_row 18 = .ok (.istore_n 1, 1) := by decide +kernel
theorem dX11_row_19 : decode cX11_row 19 = .ok (.aload_n 0, 1) := by decide +kernel
theorem dX11_row_20 : decode cX11_row 20 = .ok (.getfield 74, 3) := by decide +kernel
theorem dX11_row_23 : decode cX11_row 23 = .ok (.getfield 152, 3) := by decide +kernel
theorem dX11_row_26 : decode cX11_row 26 = .ok (.aload_n 0, 1) := by decide +kernel
theorem dX11_row_27 : decode cX11_row 27 = .ok (.getfield 63, 3) := by decide +kernel
theorem dX11_row_30 : decode cX11_row 30 = .ok (.invokevirtual 205, 3) := by decide +kernel
theorem dX11_row_33 : decode cX11_row 33 = .ok (.aload_n 0, 1) := by decide +kernel
theorem dX11_row_34 : decode cX11_row 34 = .ok (.getfield 10, 3) := by decide +kernel
theorem dX11_row_37 : decode cX11_row 37 = .ok (.iconst 0, 1) := by decide +kernel
theorem dX11_row_38 : decode cX11_row 38 = .ok (.putfield 93, 3) := by decide +kernel
theorem dX11_row_41 : decode cX11_row 41 = .ok (.iload_n 1, 1) := by decide +kernel
theorem dX11_row_42 : decode cX11_row 42 = .ok (.ireturn, 1) := by decide +kernel
theorem dX11_reach_0 : decode cX11_reach 0 = .ok (.aload_n 0, 1) := by decide +kernel
theorem dX11_reach_1 : decode cX11_reach 1 = .ok (.getfield 74, 3) := by decide +kernel
theorem dX11_reach_4 : decode cX11_reach 4 = .ok (.iconst 3, 1) := by decide +kernel
theorem dX11_reach_5 : decode cX11_reach 5 = .ok (.iload_n 1, 1) := by decide +kernel
theorem dX11_reach_6 : decode cX11_reach 6 = .ok (.invokevirtual 125, 3) := by decide +kernel
theorem dX11_reach_9 : decode cX11_reach 9 = .ok (.ifCond .eq 15, 3) := by decide +kernel
theorem dX11_reach_12 : decode cX11_reach 12 = .ok (.aload_n 0, 1) := by decide +kernel
theorem dX11_reach_13 : decode cX11_reach 13 = .ok (.getfield 74, 3) := by decide +kernel
theorem dX11_reach_16 : decode cX11_reach 16 = .ok (.iconst 0, 1) := by decide +kernel
theorem dX11_reach_17 : decode cX11_reach 17 = .ok (.iload_n 2, 1) := by decide +kernel
theorem dX11_reach_18 : decode cX11_reach 18 = .ok (.invokevirtual 125, 3) := by decide +kernel
theorem dX11_reach_21 : decode cX11_reach 21 = .ok (.ifCond .ne 5, 3) := by decide +kernel
theorem dX11_reach_24 : decode cX11_reach 24 = .ok (.iconst (-1), 1) := by decide +kernel
theorem dX11_reach_25 : decode cX11_reach 25 = .ok (.ireturn, 1) := by decide +kernel
theorem dX11_reach_26 : decode cX11_reach 26 = .ok (.aload_n 0, 1) := by decide +kernel
theorem dX11_reach_27 : decode cX11_reach 27 = .ok (.getfield 28, 3) := by decide +kernel
theorem dX11_reach_30 : decode cX11_reach 30 = .ok (.aload_n 0, 1) := by decide +kernel
theorem dX11_reach_31 : decode cX11_reach 31 = .ok (.getfield 74, 3) := by decide +kernel
theorem dX11_reach_34 : decode cX11_reach 34 = .ok (.iload_n 1, 1) := by decide +kernel
theorem dX11_reach_35 : decode cX11_reach 35 = .ok (.aload_n 0, 1) := by decide +kernel
theorem dX11_reach_36 : decode cX11_reach 36 = .ok (.getfield 74, 3) := by decide +kernel
theorem dX11_reach_39 : decode cX11_reach 39 = .ok (.iload_n 1, 1) := by decide +kernel
theorem dX11_reach_40 : decode cX11_reach 40 = .ok (.invokevirtual 171, 3) := by decide +kernel
theorem dX11_reach_43 : decode cX11_reach 43 = .ok (.iconst 0, 1) := by decide +kernel
theorem dX11_reach_44 : decode cX11_reach 44 = .ok (.iload_n 2, 1) := by decide +kernel
theorem dX11_reach_45 : decode cX11_reach 45 = .ok (.invokevirtual 212, 3) := by decide +kernel
theorem dX11_reach_48 : decode cX11_reach 48 = .ok (.ireturn, 1) := by decide +kernel
theorem dX11_opens_0 : decode cX11_opens 0 = .ok (.aload_n 0, 1) := by decide +kernel
theorem dX11_opens_1 : decode cX11_opens 1 = .ok (.getfield 74, 3) := by decide +kernel
theorem dX11_opens_4 : decode cX11_opens 4 = .ok (.iconst 3, 1) := by decide +kernel
theorem dX11_opens_5 : decode cX11_opens 5 = .ok (.iload_n 1, 1) := by decide +kernel
theorem dX11_opens_6 : decode cX11_opens 6 = .ok (.invokevirtual 125, 3) := by decide +kernel
theorem dX11_opens_9 : decode cX11_opens 9 = .ok (.ifCond .eq 15, 3) := by decide +kernel
theorem dX11_opens_12 : decode cX11_opens 12 = .ok (.aload_n 0, 1) := by decide +kernel
theorem dX11_opens_13 : decode cX11_opens 13 = .ok (.getfield 74, 3) := by decide +kernel
theorem dX11_opens_16 : decode cX11_opens 16 = .ok (.iconst 1, 1) := by decide +kernel
theorem dX11_opens_17 : decode cX11_opens 17 = .ok (.iload_n 2, 1) := by decide +kernel
theorem dX11_opens_18 : decode cX11_opens 18 = .ok (.invokevirtual 125, 3) := by decide +kernel
theorem dX11_opens_21 : decode cX11_opens 21 = .ok (.ifCond .ne 5, 3) := by decide +kernel
theorem dX11_opens_24 : decode cX11_opens 24 = .ok (.iconst (-1), 1) := by decide +kernel
theorem dX11_opens_25 : decode cX11_opens 25 = .ok (.ireturn, 1) := by decide +kernel
theorem dX11_opens_26 : decode cX11_opens 26 = .ok (.aload_n 0, 1) := by decide +kernel
theorem dX11_opens_27 : decode cX11_opens 27 = .ok (.getfield 28, 3) := by decide +kernel
theorem dX11_opens_30 : decode cX11_opens 30 = .ok (.aload_n 0, 1) := by decide +kernel
theorem dX11_opens_31 : decode cX11_opens 31 = .ok (.getfield 74, 3) := by decide +kernel
theorem dX11_opens_34 : decode cX11_opens 34 = .ok (.iload_n 1, 1) := by decide +kernel
theorem dX11_opens_35 : decode cX11_opens 35 = .ok (.aload_n 0, 1) := by decide +kernel
theorem dX11_opens_36 : decode cX11_opens 36 = .ok (.getfield 74, 3) := by decide +kernel
theorem dX11_opens_39 : decode cX11_opens 39 = .ok (.iload_n 1, 1) := by decide +kernel
theorem dX11_opens_40 : decode cX11_opens 40 = .ok (.invokevirtual 171, 3) := by decide +kernel
theorem dX11_opens_43 : decode cX11_opens 43 = .ok (.iconst 1, 1) := by decide +kernel
theorem dX11_opens_44 : decode cX11_opens 44 = .ok (.iload_n 2, 1) := by decide +kernel
theorem dX11_opens_45 : decode cX11_opens 45 = .ok (.invokevirtual 212, 3) := by decide +kernel
theorem dX11_opens_48 : decode cX11_opens 48 = .ok (.ireturn, 1) := by decide +kernel
theorem dX11_errands_0 : decode cX11_errands 0 = .ok (.aload_n 0, 1) := by decide +kernel
theorem dX11_errands_1 : decode cX11_errands 1 = .ok (.getfield 74, 3) := by decide +kernel
theorem dX11_errands_4 : decode cX11_errands 4 = .ok (.iconst 3, 1) := by decide +kernel
theorem dX11_errands_5 : decode cX11_errands 5 = .ok (.iload_n 1, 1) := by decide +kernel
theorem dX11_errands_6 : decode cX11_errands 6 = .ok (.invokevirtual 125, 3) := by decide +kernel
theorem dX11_errands_9 : decode cX11_errands 9 = .ok (.ifCond .ne 5, 3) := by decide +kernel
theorem dX11_errands_12 : decode cX11_errands 12 = .ok (.iconst (-1), 1) := by decide +kernel
theorem dX11_errands_13 : decode cX11_errands 13 = .ok (.ireturn, 1) := by decide +kernel
theorem dX11_errands_14 : decode cX11_errands 14 = .ok (.aload_n 0, 1) := by decide +kernel
theorem dX11_errands_15 : decode cX11_errands 15 = .ok (.getfield 28, 3) := by decide +kernel
theorem dX11_errands_18 : decode cX11_errands 18 = .ok (.aload_n 0, 1) := by decide +kernel
theorem dX11_errands_19 : decode cX11_errands 19 = .ok (.getfield 74, 3) := by decide +kernel
theorem dX11_errands_22 : decode cX11_errands 22 = .ok (.iload_n 1, 1) := by decide +kernel
theorem dX11_errands_23 : decode cX11_errands 23 = .ok (.aload_n 0, 1) := by decide +kernel
theorem dX11_errands_24 : decode cX11_errands 24 = .ok (.getfield 74, 3) := by decide +kernel
theorem dX11_errands_27 : decode cX11_errands 27 = .ok (.iload_n 1, 1) := by decide +kernel
theorem dX11_errands_28 : decode cX11_errands 28 = .ok (.invokevirtual 171, 3) := by decide +kernel
theorem dX11_errands_31 : decode cX11_errands 31 = .ok (.iconst 2, 1) := by decide +kernel
theorem dX11_errands_32 : decode cX11_errands 32 = .ok (.iconst 0, 1) := by decide +kernel
theorem dX11_errands_33 : decode cX11_errands 33 = .ok (.invokevirtual 212, 3) := by decide +kernel
theorem dX11_errands_36 : decode cX11_errands 36 = .ok (.ireturn, 1) := by decide +kernel
theorem dX11_lent_0 : decode cX11_lent 0 = .ok (.aload_n 0, 1) := by decide +kernel
theorem dX11_lent_1 : decode cX11_lent 1 = .ok (.getfield 74, 3) := by decide +kernel
theorem dX11_lent_4 : decode cX11_lent 4 = .ok (.iconst 3, 1) := by decide +kernel
theorem dX11_lent_5 : decode cX11_lent 5 = .ok (.iload_n 1, 1) := by decide +kernel
theorem dX11_lent_6 : decode cX11_lent 6 = .ok (.invokevirtual 125, 3) := by decide +kernel
theorem dX11_lent_9 : decode cX11_lent 9 = .ok (.ifCond .eq 24, 3) := by decide +kernel
theorem dX11_lent_12 : decode cX11_lent 12 = .ok (.aload_n 0, 1) := by decide +kernel
theorem dX11_lent_13 : decode cX11_lent 13 = .ok (.getfield 74, 3) := by decide +kernel
theorem dX11_lent_16 : decode cX11_lent 16 = .ok (.iconst 0, 1) := by decide +kernel
theorem dX11_lent_17 : decode cX11_lent 17 = .ok (.iload_n 2, 1) := by decide +kernel
theorem dX11_lent_18 : decode cX11_lent 18 = .ok (.invokevirtual 125, 3) := by decide +kernel
theorem dX11_lent_21 : decode cX11_lent 21 = .ok (.ifCond .eq 12, 3) := by decide +kernel
theorem dX11_lent_24 : decode cX11_lent 24 = .ok (.iload_n 3, 1) := by decide +kernel
theorem dX11_lent_25 : decode cX11_lent 25 = .ok (.ifCond .lt 8, 3) := by decide +kernel
theorem dX11_lent_28 : decode cX11_lent 28 = .ok (.iload_n 3, 1) := by decide +kernel
theorem dX11_lent_29 : decode cX11_lent 29 = .ok (.iconst 2, 1) := by decide +kernel
theorem dX11_lent_30 : decode cX11_lent 30 = .ok (.if_icmp .le 5, 3) := by decide +kernel
theorem dX11_lent_33 : decode cX11_lent 33 = .ok (.iconst (-1), 1) := by decide +kernel
theorem dX11_lent_34 : decode cX11_lent 34 = .ok (.ireturn, 1) := by decide +kernel
theorem dX11_lent_35 : decode cX11_lent 35 = .ok (.aload_n 0, 1) := by decide +kernel
theorem dX11_lent_36 : decode cX11_lent 36 = .ok (.getfield 28, 3) := by decide +kernel
theorem dX11_lent_39 : decode cX11_lent 39 = .ok (.aload_n 0, 1) := by decide +kernel
theorem dX11_lent_40 : decode cX11_lent 40 = .ok (.getfield 74, 3) := by decide +kernel
theorem dX11_lent_43 : decode cX11_lent 43 = .ok (.iload_n 1, 1) := by decide +kernel
theorem dX11_lent_44 : decode cX11_lent 44 = .ok (.iload_n 2, 1) := by decide +kernel
theorem dX11_lent_45 : decode cX11_lent 45 = .ok (.invokevirtual 216, 3) := by decide +kernel
theorem dX11_lent_48 : decode cX11_lent 48 = .ok (.istore 4, 2) := by decide +kernel
theorem dX11_lent_50 : decode cX11_lent 50 = .ok (.iload 4, 2) := by decide +kernel
theorem dX11_lent_52 : decode cX11_lent 52 = .ok (.iconst (-1), 1) := by decide +kernel
theorem dX11_lent_53 : decode cX11_lent 53 = .ok (.if_icmp .eq 7, 3) := by decide +kernel
theorem dX11_lent_56 : decode cX11_lent 56 = .ok (.iload_n 3, 1) := by decide +kernel
theorem dX11_lent_57 : decode cX11_lent 57 = .ok (.ifCond .ne 6, 3) := by decide +kernel
theorem dX11_lent_60 : decode cX11_lent 60 = .ok (.iload 4, 2) := by decide +kernel
theorem dX11_lent_62 : decode cX11_lent 62 = .ok (.ireturn, 1) := by decide +kernel
theorem dX11_lent_63 : decode cX11_lent 63 = .ok (.aload_n 0, 1) := by decide +kernel
theorem dX11_lent_64 : decode cX11_lent 64 = .ok (.getfield 28, 3) := by decide +kernel
theorem dX11_lent_67 : decode cX11_lent 67 = .ok (.getfield 220, 3) := by decide +kernel
theorem dX11_lent_70 : decode cX11_lent 70 = .ok (.istore 5, 2) := by decide +kernel
theorem dX11_lent_72 : decode cX11_lent 72 = .ok (.iload_n 3, 1) := by decide +kernel
theorem dX11_lent_73 : decode cX11_lent 73 = .ok (.iconst 1, 1) := by decide +kernel
theorem dX11_lent_74 : decode cX11_lent 74 = .ok (.if_icmp .ne 6, 3) := by decide +kernel
theorem dX11_lent_77 : decode cX11_lent 77 = .ok (.iload 5, 2) := by decide +kernel
theorem dX11_lent_79 : decode cX11_lent 79 = .ok (.ireturn, 1) := by decide +kernel
theorem dX11_lent_80 : decode cX11_lent 80 = .ok (.aload_n 0, 1) := by decide +kernel
theorem dX11_lent_81 : decode cX11_lent 81 = .ok (.getfield 28, 3) := by decide +kernel
theorem dX11_lent_84 : decode cX11_lent 84 = .ok (.aload_n 0, 1) := by decide +kernel
theorem dX11_lent_85 : decode cX11_lent 85 = .ok (.getfield 74, 3) := by decide +kernel
theorem dX11_lent_88 : decode cX11_lent 88 = .ok (.iload_n 1, 1) := by decide +kernel
theorem dX11_lent_89 : decode cX11_lent 89 = .ok (.aload_n 0, 1) := by decide +kernel
theorem dX11_lent_90 : decode cX11_lent 90 = .ok (.getfield 74, 3) := by decide +kernel
theorem dX11_lent_93 : decode cX11_lent 93 = .ok (.iload_n 1, 1) := by decide +kernel
theorem dX11_lent_94 : decode cX11_lent 94 = .ok (.invokevirtual 171, 3) := by decide +kernel
theorem dX11_lent_97 : decode cX11_lent 97 = .ok (.iconst 0, 1) := by decide +kernel
theorem dX11_lent_98 : decode cX11_lent 98 = .ok (.iload_n 2, 1) := by decide +kernel
theorem dX11_lent_99 : decode cX11_lent 99 = .ok (.invokevirtual 212, 3) := by decide +kernel
theorem dX11_lent_102 : decode cX11_lent 102 = .ok (.istore 6, 2) := by decide +kernel
theorem dX11_lent_104 : decode cX11_lent 104 = .ok (.iload 6, 2) := by decide +kernel
theorem dX11_lent_106 : decode cX11_lent 106 = .ok (.iconst (-1), 1) := by decide +kernel
theorem dX11_lent_107 : decode cX11_lent 107 = .ok (.if_icmp .ne 7, 3) := by decide +kernel
theorem dX11_lent_110 : decode cX11_lent 110 = .ok (.iconst (-1), 1) := by decide +kernel
theorem dX11_lent_111 : decode cX11_lent 111 = .ok (.goto 8, 3) := by decide +kernel
theorem dX11_lent_114 : decode cX11_lent 114 = .ok (.iload 6, 2) := by decide +kernel
theorem dX11_lent_116 : decode cX11_lent 116 = .ok (.iload 5, 2) := by decide +kernel
theorem dX11_lent_118 : decode cX11_lent 118 = .ok (.isub, 1) := by decide +kernel
theorem dX11_lent_119 : decode cX11_lent 119 = .ok (.ireturn, 1) := by decide +kernel
theorem dX11_actAnswer_0 : decode cX11_actAnswer 0 = .ok (.iload_n 1, 1) := by decide +kernel
theorem dX11_actAnswer_1 : decode cX11_actAnswer 1 = .ok (.iconst (-1), 1) := by decide +kernel
theorem dX11_actAnswer_2 : decode cX11_actAnswer 2 = .ok (.if_icmp .ne 11, 3) := by decide +kernel
theorem dX11_actAnswer_5 : decode cX11_actAnswer 5 = .ok (.aload_n 0, 1) := by decide +kernel
theorem dX11_actAnswer_6 : decode cX11_actAnswer 6 = .ok (.iconst 2, 1) := by decide +kernel
theorem dX11_actAnswer_7 : decode cX11_actAnswer 7 = .ok (.invokevirtual 85, 3) := by decide +kernel
theorem dX11_actAnswer_10 : decode cX11_actAnswer 10 = .ok (.goto 4, 3) := by decide +kernel
theorem dX11_actAnswer_13 : decode cX11_actAnswer 13 = .ok (.iload_n 1, 1) := by decide +kernel
theorem dX11_actAnswer_14 : decode cX11_actAnswer 14 = .ok (.ireturn, 1) := by decide +kernel
theorem dX11_handingAnswer_0 : decode cX11_handingAnswer 0 = .ok (.iload_n 1, 1) := by decide +kernel
theorem dX11_handingAnswer_1 : decode cX11_handingAnswer 1 = .ok (.ifCond .ne 9, 3) := by decide +kernel
theorem dX11_handingAnswer_4 : decode cX11_handingAnswer 4 = .ok (.aload_n 0, 1) := by decide +kernel
theorem dX11_handingAnswer_5 : decode cX11_handingAnswer 5 = .ok (.iconst 3, 1) := by decide +kernel
theorem dX11_handingAnswer_6 : decode cX11_handingAnswer 6 = .ok (.invokevirtual 85, 3) := by decide +kernel
theorem dX11_handingAnswer_9 : decode cX11_handingAnswer 9 = .ok (.pop, 1) := by decide +kernel
theorem dX11_handingAnswer_10 : decode cX11_handingAnswer 10 = .ok (.iload_n 1, 1) := by decide +kernel
theorem dX11_handingAnswer_11 : decode cX11_handingAnswer 11 = .ok (.ireturn, 1) := by decide +kernel
theorem dX11_firstImpossible_0 : decode cX11_firstImpossible 0 = .ok (.iconst 0, 1) := by decide +kernel
theorem dX11_firstImpossible_1 : decode cX11_firstImpossible 1 = .ok (.istore_n 1, 1) := by decide +kernel
theorem dX11_firstImpossible_2 : decode cX11_firstImpossible 2 = .ok (.iconst 0, 1) := by decide +kernel
theorem dX11_firstImpossible_3 : decode cX11_firstImpossible 3 = .ok (.istore_n 2, 1) := by decide +kernel
theorem dX11_firstImpossible_4 : decode cX11_firstImpossible 4 = .ok (.iload_n 2, 1) := by decide +kernel
theorem dX11_firstImpossible_5 : decode cX11_firstImpossible 5 = .ok (.aload_n 0, 1) := by decide +kernel
theorem dX11_firstImpossible_6 : decode cX11_firstImpossible 6 = .ok (.getfield 10, 3) := by decide +kernel
theorem dX11_firstImpossible_9 : decode cX11_firstImpossible 9 = .ok (.getfield 93, 3) := by decide +kernel
theorem dX11_firstImpossible_12 : decode cX11_firstImpossible 12 = .ok (.if_icmp .ge 68, 3) := by decide +kernel
theorem dX11_firstImpossible_15 : decode cX11_firstImpossible 15 = .ok (.iload_n 2, 1) := by decide +kernel
theorem dX11_firstImpossible_16 : decode cX11_firstImpossible 16 = .ok (.iconst 3, 1) := by decide +kernel
theorem dX11_firstImpossible_17 : decode cX11_firstImpossible 17 = .ok (.iadd, 1) := by decide +kernel
theorem dX11_firstImpossible_18 : decode cX11_firstImpossible 18 = .ok (.aload_n 0, 1) := by decide +kernel
theorem dX11_firstImpossible_19 : decode cX11_firstImpossible 19 = .ok (.getfield 10, 3) := by decide +kernel
theorem dX11_firstImpossible_22 : decode cX11_firstImpossible 22 = .ok (.getfield 93, 3) := by decide +kernel
theorem dX11_firstImpossible_25 : decode cX11_firstImpossible 25 = .ok (.if_icmp .le 5, 3) := by decide +kernel
theorem dX11_firstImpossible_28 : decode cX11_firstImpossible 28 = .ok (.iload_n 1, 1) := by decide +kernel
theorem dX11_firstImpossible_29 : decode cX11_firstImpossible 29 = .ok (.ireturn, 1) := by decide +kernel
theorem dX11_firstImpossible_30 : decode cX11_firstImpossible 30 = .ok (.aload_n 0, 1) := by decide +kernel
theorem dX11_firstImpossible_31 : decode cX11_firstImpossible 31 = .ok (.getfield 74, 3) := by decide +kernel
theorem dX11_firstImpossible_34 : decode cX11_firstImpossible 34 = .ok (.aload_n 0, 1) := by decide +kernel
theorem dX11_firstImpossible_35 : decode cX11_firstImpossible 35 = .ok (.getfield 10, 3) := by decide +kernel
theorem dX11_firstImpossible_38 : decode cX11_firstImpossible 38 = .ok (.iload_n 2, 1) := by decide +kernel
theorem dX11_firstImpossible_39 : decode cX11_firstImpossible 39 = .ok (.invokevirtual 277, 3) := by decide +kernel
theorem dX11_firstImpossible_42 : decode cX11_firstImpossible 42 = .ok (.aload_n 0, 1) := by decide +kernel
theorem dX11_firstImpossible_43 : decode cX11_firstImpossible 43 = .ok (.getfield 10, 3) := by decide +kernel
theorem dX11_firstImpossible_46 : decode cX11_firstImpossible 46 = .ok (.iload_n 2, 1) := by decide +kernel
theorem dX11_firstImpossible_47 : decode cX11_firstImpossible 47 = .ok (.iconst 1, 1) := by decide +kernel
theorem dX11_firstImpossible_48 : decode cX11_firstImpossible 48 = .ok (.iadd, 1) := by decide +kernel
theorem dX11_firstImpossible_49 : decode cX11_firstImpossible 49 = .ok (.invokevirtual 277, 3) := by decide +kernel
theorem dX11_firstImpossible_52 : decode cX11_firstImpossible 52 = .ok (.aload_n 0, 1) := by decide +kernel
theorem dX11_firstImpossible_53 : decode cX11_firstImpossible 53 = .ok (.getfield 10, 3) := by decide +kernel
theorem dX11_firstImpossible_56 : decode cX11_firstImpossible 56 = .ok (.iload_n 2, 1) := by decide +kernel
theorem dX11_firstImpossible_57 : decode cX11_firstImpossible 57 = .ok (.iconst 2, 1) := by decide +kernel
theorem dX11_firstImpossible_58 : decode cX11_firstImpossible 58 = .ok (.iadd, 1) := by decide +kernel
theorem dX11_firstImpossible_59 : decode cX11_firstImpossible 59 = .ok (.invokevirtual 277, 3) := by decide +kernel
theorem dX11_firstImpossible_62 : decode cX11_firstImpossible 62 = .ok (.invokevirtual 280, 3) := by decide +kernel
theorem dX11_firstImpossible_65 : decode cX11_firstImpossible 65 = .ok (.iconst (-1), 1) := by decide +kernel
theorem dX11_firstImpossible_66 : decode cX11_firstImpossible 66 = .ok (.if_icmp .ne 5, 3) := by decide +kernel
theorem dX11_firstImpossible_69 : decode cX11_firstImpossible 69 = .ok (.iload_n 1, 1) := by decide +kernel
theorem dX11_firstImpossible_70 : decode cX11_firstImpossible 70 = .ok (.ireturn, 1) := by decide +kernel
theorem dX11_firstImpossible_71 : decode cX11_firstImpossible 71 = .ok (.iinc 1 1, 3) := by decide +kernel
theorem dX11_firstImpossible_74 : decode cX11_firstImpossible 74 = .ok (.iinc 2 3, 3) := by decide +kernel
theorem dX11_firstImpossible_77 : decode cX11_firstImpossible 77 = .ok (.goto (-73), 3) := by decide +kernel
theorem dX11_firstImpossible_80 : decode cX11_firstImpossible 80 = .ok (.iconst (-1), 1) := by decide +kernel
theorem dX11_firstImpossible_81 : decode cX11_firstImpossible 81 = .ok (.ireturn, 1) := by decide +kernel
