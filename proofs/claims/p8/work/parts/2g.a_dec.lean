theorem dX4_accept_0 : decode cX4_accept 0 = .ok (.aload_n 0, 1) := by decide +kernel
theorem dX4_accept_1 : decode cX4_accept 1 = .ok (.getfield 18, 3) := by decide +kernel
theorem dX4_accept_4 : decode cX4_accept 4 = .ok (.aload_n 1, 1) := by decide +kernel
theorem dX4_accept_5 : decode cX4_accept 5 = .ok (.getfield 31, 3) := by decide +kernel
theorem dX4_accept_8 : decode cX4_accept 8 = .ok (.invokevirtual 54, 3) := by decide +kernel
theorem dX4_accept_11 : decode cX4_accept 11 = .ok (.iconst 0, 1) := by decide +kernel
theorem dX4_accept_12 : decode cX4_accept 12 = .ok (.istore_n 3, 1) := by decide +kernel
theorem dX4_accept_13 : decode cX4_accept 13 = .ok (.iconst 0, 1) := by decide +kernel
theorem dX4_accept_14 : decode cX4_accept 14 = .ok (.istore 4, 2) := by decide +kernel
theorem dX4_accept_16 : decode cX4_accept 16 = .ok (.iload 4, 2) := by decide +kernel
theorem dX4_accept_18 : decode cX4_accept 18 = .ok (.aload_n 1, 1) := by decide +kernel
theorem dX4_accept_19 : decode cX4_accept 19 = .ok (.getfield 26, 3) := by decide +kernel
theorem dX4_accept_22 : decode cX4_accept 22 = .ok (.iconst 3, 1) := by decide +kernel
theorem dX4_accept_23 : decode cX4_accept 23 = .ok (.iaload, 1) := by decide +kernel
theorem dX4_accept_24 : decode cX4_accept 24 = .ok (.if_icmp .ge 43, 3) := by decide +kernel
theorem dX4_accept_27 : decode cX4_accept 27 = .ok (.aload_n 2, 1) := by decide +kernel
theorem dX4_accept_28 : decode cX4_accept 28 = .ok (.iload_n 3, 1) := by decide +kernel
theorem dX4_accept_29 : decode cX4_accept 29 = .ok (.invokevirtual 58, 3) := by decide +kernel
theorem dX4_accept_32 : decode cX4_accept 32 = .ok (.istore 5, 2) := by decide +kernel
theorem dX4_accept_34 : decode cX4_accept 34 = .ok (.aload_n 1, 1) := by decide +kernel
theorem dX4_accept_35 : decode cX4_accept 35 = .ok (.iconst 0, 1) := by decide +kernel
theorem dX4_accept_36 : decode cX4_accept 36 = .ok (.iload 5, 2) := by decide +kernel
theorem dX4_accept_38 : decode cX4_accept 38 = .ok (.invokevirtual 64, 3) := by decide +kernel
theorem dX4_accept_41 : decode cX4_accept 41 = .ok (.ifCond .ne 5, 3) := by decide +kernel
theorem dX4_accept_44 : decode cX4_accept 44 = .ok (.iconst 0, 1) := by decide +kernel
theorem dX4_accept_45 : decode cX4_accept 45 = .ok (.ireturn, 1) := by decide +kernel
theorem dX4_accept_46 : decode cX4_accept 46 = .ok (.aload_n 0, 1) := by decide +kernel
theorem dX4_accept_47 : decode cX4_accept 47 = .ok (.getfield 18, 3) := by decide +kernel
theorem dX4_accept_50 : decode cX4_accept 50 = .ok (.getfield 34, 3) := by decide +kernel
theorem dX4_accept_53 : decode cX4_accept 53 = .ok (.iload 4, 2) := by decide +kernel
theorem dX4_accept_55 : decode cX4_accept 55 = .ok (.iload 5, 2) := by decide +kernel
theorem dX4_accept_57 : decode cX4_accept 57 = .ok (.iastore, 1) := by decide +kernel
theorem dX4_accept_58 : decode cX4_accept 58 = .ok (.iinc 3 1, 3) := by decide +kernel
theorem dX4_accept_61 : decode cX4_accept 61 = .ok (.iinc 4 1, 3) := by decide +kernel
theorem dX4_accept_64 : decode cX4_accept 64 = .ok (.goto (-48), 3) := by decide +kernel
theorem dX4_accept_67 : decode cX4_accept 67 = .ok (.iconst 0, 1) := by decide +kernel
theorem dX4_accept_68 : decode cX4_accept 68 = .ok (.istore 4, 2) := by decide +kernel
theorem dX4_accept_70 : decode cX4_accept 70 = .ok (.iload 4, 2) := by decide +kernel
theorem dX4_accept_72 : decode cX4_accept 72 = .ok (.aload_n 1, 1) := by decide +kernel
theorem dX4_accept_73 : decode cX4_accept 73 = .ok (.getfield 26, 3) := by decide +kernel
theorem dX4_accept_76 : decode cX4_accept 76 = .ok (.iconst 2, 1) := by decide +kernel
theorem dX4_accept_77 : decode cX4_accept 77 = .ok (.iaload, 1) := by decide +kernel
theorem dX4_accept_78 : decode cX4_accept 78 = .ok (.if_icmp .ge 38, 3) := by decide +kernel
theorem dX4_accept_81 : decode cX4_accept 81 = .ok (.aload_n 0, 1) := by decide +kernel
theorem dX4_accept_82 : decode cX4_accept 82 = .ok (.aload_n 1, 1) := by decide +kernel
theorem dX4_accept_83 : decode cX4_accept 83 = .ok (.aload_n 2, 1) := by decide +kernel
theorem dX4_accept_84 : decode cX4_accept 84 = .ok (.iload 4, 2) := by decide +kernel
theorem dX4_accept_86 : decode cX4_accept 86 = .ok (.iload_n 3, 1) := by decide +kernel
theorem dX4_accept_87 : decode cX4_accept 87 = .ok (.invokevirtual 68, 3) := by decide +kernel
theorem dX4_accept_90 : decode cX4_accept 90 = .ok (.ifCond .ne 5, 3) := by decide +kernel
theorem dX4_accept_93 : decode cX4_accept 93 = .ok (.iconst 0, 1) := by decide +kernel
theorem dX4_accept_94 : decode cX4_accept 94 = .ok (.ireturn, 1) := by decide +kernel
theorem dX4_accept_95 : decode cX4_accept 95 = .ok (.iload_n 3, 1) := by decide +kernel
theorem dX4_accept_96 : decode cX4_accept 96 = .ok (.iconst 2, 1) := by decide +kernel
theorem dX4_accept_97 : decode cX4_accept 97 = .ok (.aload_n 0, 1) := by decide +kernel
theorem dX4_accept_98 : decode cX4_accept 98 = .ok (.getfield 18, 3) := by decide +kernel
theorem dX4_accept_101 : decode cX4_accept 101 = .ok (.getfield 44, 3) := by decide +kernel
theorem dX4_accept_104 : decode cX4_accept 104 = .ok (.iload 4, 2) := by decide +kernel
theorem dX4_accept_106 : decode cX4_accept 106 = .ok (.iaload, 1) := by decide +kernel
theorem dX4_accept_107 : decode cX4_accept 107 = .ok (.iadd, 1) := by decide +kernel
theorem dX4_accept_108 : decode cX4_accept 108 = .ok (.iadd, 1) := by decide +kernel
theorem dX4_accept_109 : decode cX4_accept 109 = .ok (.istore_n 3, 1) := by decide +kernel
theorem dX4_accept_110 : decode cX4_accept 110 = .ok (.iinc 4 1, 3) := by decide +kernel
theorem dX4_accept_113 : decode cX4_accept 113 = .ok (.goto (-43), 3) := by decide +kernel
theorem dX4_accept_116 : decode cX4_accept 116 = .ok (.aload_n 2, 1) := by decide +kernel
theorem dX4_accept_117 : decode cX4_accept 117 = .ok (.getfield 72, 3) := by decide +kernel
theorem dX4_accept_120 : decode cX4_accept 120 = .ok (.iload_n 3, 1) := by decide +kernel
theorem dX4_accept_121 : decode cX4_accept 121 = .ok (.iconst 1, 1) := by decide +kernel
theorem dX4_accept_122 : decode cX4_accept 122 = .ok (.iadd, 1) := by decide +kernel
theorem dX4_accept_123 : decode cX4_accept 123 = .ok (.if_icmp .ne 16, 3) := by decide +kernel
theorem dX4_accept_126 : decode cX4_accept 126 = .ok (.aload_n 2, 1) := by decide +kernel
theorem dX4_accept_127 : decode cX4_accept 127 = .ok (.iload_n 3, 1) := by decide +kernel
theorem dX4_accept_128 : decode cX4_accept 128 = .ok (.invokevirtual 58, 3) := by decide +kernel
theorem dX4_accept_131 : decode cX4_accept 131 = .ok (.aload_n 2, 1) := by decide +kernel
theorem dX4_accept_132 : decode cX4_accept 132 = .ok (.iload_n 3, 1) := by decide +kernel
theorem dX4_accept_133 : decode cX4_accept 133 = .ok (.invokestatic 73, 3) := by decide +kernel
theorem dX4_accept_136 : decode cX4_accept 136 = .ok (.if_icmp .eq 5, 3) := by decide +kernel
theorem dX4_accept_139 : decode cX4_accept 139 = .ok (.iconst 0, 1) := by decide +kernel
theorem dX4_accept_140 : decode cX4_accept 140 = .ok (.ireturn, 1) := by decide +kernel
theorem dX4_accept_141 : decode cX4_accept 141 = .ok (.aload_n 1, 1) := by decide +kernel
theorem dX4_accept_142 : decode cX4_accept 142 = .ok (.getfield 31, 3) := by decide +kernel
theorem dX4_accept_145 : decode cX4_accept 145 = .ok (.aload_n 0, 1) := by decide +kernel
theorem dX4_accept_146 : decode cX4_accept 146 = .ok (.getfield 18, 3) := by decide +kernel
theorem dX4_accept_149 : decode cX4_accept 149 = .ok (.invokevirtual 54, 3) := by decide +kernel
theorem dX4_accept_152 : decode cX4_accept 152 = .ok (.iconst 1, 1) := by decide +kernel
theorem dX4_accept_153 : decode cX4_accept 153 = .ok (.ireturn, 1) := by decide +kernel
theorem dX4_acceptKey_0 : decode cX4_acceptKey 0 = .ok (.aload_n 2, 1) := by decide +kernel
theorem dX4_acceptKey_1 : decode cX4_acceptKey 1 = .ok (.iload 4, 2) := by decide +kernel
theorem dX4_acceptKey_3 : decode cX4_acceptKey 3 = .ok (.invokevirtual 58, 3) := by decide +kernel
theorem dX4_acceptKey_6 : decode cX4_acceptKey 6 = .ok (.istore 5, 2) := by decide +kernel
theorem dX4_acceptKey_8 : decode cX4_acceptKey 8 = .ok (.aload_n 2, 1) := by decide +kernel
theorem dX4_acceptKey_9 : decode cX4_acceptKey 9 = .ok (.iload 4, 2) := by decide +kernel
theorem dX4_acceptKey_11 : decode cX4_acceptKey 11 = .ok (.iconst 1, 1) := by decide +kernel
theorem dX4_acceptKey_12 : decode cX4_acceptKey 12 = .ok (.iadd, 1) := by decide +kernel
theorem dX4_acceptKey_13 : decode cX4_acceptKey 13 = .ok (.invokevirtual 58, 3) := by decide +kernel
theorem dX4_acceptKey_16 : decode cX4_acceptKey 16 = .ok (.istore 6, 2) := by decide +kernel
theorem dX4_acceptKey_18 : decode cX4_acceptKey 18 = .ok (.aload_n 1, 1) := by decide +kernel
theorem dX4_acceptKey_19 : decode cX4_acceptKey 19 = .ok (.iload 5, 2) := by decide +kernel
theorem dX4_acceptKey_21 : decode cX4_acceptKey 21 = .ok (.invokestatic 77, 3) := by decide +kernel
theorem dX4_acceptKey_24 : decode cX4_acceptKey 24 = .ok (.ifCond .eq 15, 3) := by decide +kernel
theorem dX4_acceptKey_27 : decode cX4_acceptKey 27 = .ok (.iload 6, 2) := by decide +kernel
theorem dX4_acceptKey_29 : decode cX4_acceptKey 29 = .ok (.ifCond .lt 10, 3) := by decide +kernel
theorem dX4_acceptKey_32 : decode cX4_acceptKey 32 = .ok (.iload 6, 2) := by decide +kernel
theorem dX4_acceptKey_34 : decode cX4_acceptKey 34 = .ok (.bipush 6, 2) := by decide +kernel
theorem dX4_acceptKey_36 : decode cX4_acceptKey 36 = .ok (.if_icmp .le 5, 3) := by decide +kernel
theorem dX4_acceptKey_39 : decode cX4_acceptKey 39 = .ok (.iconst 0, 1) := by decide +kernel
theorem dX4_acceptKey_40 : decode cX4_acceptKey 40 = .ok (.ireturn, 1) := by decide +kernel
theorem dX4_acceptKey_41 : decode cX4_acceptKey 41 = .ok (.aload_n 0, 1) := by decide +kernel
theorem dX4_acceptKey_42 : decode cX4_acceptKey 42 = .ok (.getfield 18, 3) := by decide +kernel
theorem dX4_acceptKey_45 : decode cX4_acceptKey 45 = .ok (.getfield 41, 3) := by decide +kernel
theorem dX4_acceptKey_48 : decode cX4_acceptKey 48 = .ok (.iload_n 3, 1) := by decide +kernel
theorem dX4_acceptKey_49 : decode cX4_acceptKey 49 = .ok (.iload 5, 2) := by decide +kernel
theorem dX4_acceptKey_51 : decode cX4_acceptKey 51 = .ok (.iastore, 1) := by decide +kernel
theorem dX4_acceptKey_52 : decode cX4_acceptKey 52 = .ok (.aload_n 0, 1) := by decide +kernel
theorem dX4_acceptKey_53 : decode cX4_acceptKey 53 = .ok (.getfield 18, 3) := by decide +kernel
theorem dX4_acceptKey_56 : decode cX4_acceptKey 56 = .ok (.getfield 44, 3) := by decide +kernel
theorem dX4_acceptKey_59 : decode cX4_acceptKey 59 = .ok (.iload_n 3, 1) := by decide +kernel
theorem dX4_acceptKey_60 : decode cX4_acceptKey 60 = .ok (.iconst 0, 1) := by decide +kernel
theorem dX4_acceptKey_61 : decode cX4_acceptKey 61 = .ok (.iastore, 1) := by decide +kernel
theorem dX4_acceptKey_62 : decode cX4_acceptKey 62 = .ok (.iconst 0, 1) := by decide +kernel
theorem dX4_acceptKey_63 : decode cX4_acceptKey 63 = .ok (.istore 7, 2) := by decide +kernel
theorem dX4_acceptKey_65 : decode cX4_acceptKey 65 = .ok (.iload 7, 2) := by decide +kernel
theorem dX4_acceptKey_67 : decode cX4_acceptKey 67 = .ok (.iload 6, 2) := by decide +kernel
theorem dX4_acceptKey_69 : decode cX4_acceptKey 69 = .ok (.if_icmp .ge 47, 3) := by decide +kernel
theorem dX4_acceptKey_72 : decode cX4_acceptKey 72 = .ok (.aload_n 2, 1) := by decide +kernel
theorem dX4_acceptKey_73 : decode cX4_acceptKey 73 = .ok (.iload 4, 2) := by decide +kernel
theorem dX4_acceptKey_75 : decode cX4_acceptKey 75 = .ok (.iconst 2, 1) := by decide +kernel
theorem dX4_acceptKey_76 : decode cX4_acceptKey 76 = .ok (.iadd, 1) := by decide +kernel
theorem dX4_acceptKey_77 : decode cX4_acceptKey 77 = .ok (.iload 7, 2) := by decide +kernel
theorem dX4_acceptKey_79 : decode cX4_acceptKey 79 = .ok (.iadd, 1) := by decide +kernel
theorem dX4_acceptKey_80 : decode cX4_acceptKey 80 = .ok (.invokevirtual 58, 3) := by decide +kernel
theorem dX4_acceptKey_83 : decode cX4_acceptKey 83 = .ok (.istore 8, 2) := by decide +kernel
theorem dX4_acceptKey_85 : decode cX4_acceptKey 85 = .ok (.aload_n 1, 1) := by decide +kernel
theorem dX4_acceptKey_86 : decode cX4_acceptKey 86 = .ok (.iconst 1, 1) := by decide +kernel
theorem dX4_acceptKey_87 : decode cX4_acceptKey 87 = .ok (.iload 8, 2) := by decide +kernel
theorem dX4_acceptKey_89 : decode cX4_acceptKey 89 = .ok (.invokevirtual 64, 3) := by decide +kernel
theorem dX4_acceptKey_92 : decode cX4_acceptKey 92 = .ok (.ifCond .eq 16, 3) := by decide +kernel
theorem dX4_acceptKey_95 : decode cX4_acceptKey 95 = .ok (.aload_n 0, 1) := by decide +kernel
theorem dX4_acceptKey_96 : decode cX4_acceptKey 96 = .ok (.getfield 18, 3) := by decide +kernel
theorem dX4_acceptKey_99 : decode cX4_acceptKey 99 = .ok (.iload_n 3, 1) := by decide +kernel
theorem dX4_acceptKey_100 : decode cX4_acceptKey 100 = .ok (.iload 8, 2) := by decide +kernel
theorem dX4_acceptKey_102 : decode cX4_acceptKey 102 = .ok (.invokevirtual 81, 3) := by decide +kernel
theorem dX4_acceptKey_105 : decode cX4_acceptKey 105 = .ok (.ifCond .ne 5, 3) := by decide +kernel
theorem dX4_acceptKey_108 : decode cX4_acceptKey 108 = .ok (.iconst 0, 1) := by decide +kernel
theorem dX4_acceptKey_109 : decode cX4_acceptKey 109 = .ok (.ireturn, 1) := by decide +kernel
theorem dX4_acceptKey_110 : decode cX4_acceptKey 110 = .ok (.iinc 7 1, 3) := by decide +kernel
theorem dX4_acceptKey_113 : decode cX4_acceptKey 113 = .ok (.goto (-48), 3) := by decide +kernel
theorem dX4_acceptKey_116 : decode cX4_acceptKey 116 = .ok (.iconst 1, 1) := by decide +kernel
theorem dX4_acceptKey_117 : decode cX4_acceptKey 117 = .ok (.ireturn, 1) := by decide +kernel
theorem dX4_isWhere_0 : decode cX4_isWhere 0 = .ok (.aload_n 0, 1) := by decide +kernel
theorem dX4_isWhere_1 : decode cX4_isWhere 1 = .ok (.iconst 3, 1) := by decide +kernel
theorem dX4_isWhere_2 : decode cX4_isWhere 2 = .ok (.iload_n 1, 1) := by decide +kernel
theorem dX4_isWhere_3 : decode cX4_isWhere 3 = .ok (.invokevirtual 64, 3) := by decide +kernel
theorem dX4_isWhere_6 : decode cX4_isWhere 6 = .ok (.ifCond .ne 32, 3) := by decide +kernel
theorem dX4_isWhere_9 : decode cX4_isWhere 9 = .ok (.aload_n 0, 1) := by decide +kernel
theorem dX4_isWhere_10 : decode cX4_isWhere 10 = .ok (.iconst 0, 1) := by decide +kernel
theorem dX4_isWhere_11 : decode cX4_isWhere 11 = .ok (.iload_n 1, 1) := by decide +kernel
theorem dX4_isWhere_12 : decode cX4_isWhere 12 = .ok (.bipush 10, 2) := by decide +kernel
theorem dX4_isWhere_14 : decode cX4_isWhere 14 = .ok (.isub, 1) := by decide +kernel
theorem dX4_isWhere_15 : decode cX4_isWhere 15 = .ok (.invokevirtual 64, 3) := by decide +kernel
theorem dX4_isWhere_18 : decode cX4_isWhere 18 = .ok (.ifCond .ne 20, 3) := by decide +kernel
theorem dX4_isWhere_21 : decode cX4_isWhere 21 = .ok (.aload_n 0, 1) := by decide +kernel
theorem dX4_isWhere_22 : decode cX4_isWhere 22 = .ok (.iload_n 1, 1) := by decide +kernel
theorem dX4_isWhere_23 : decode cX4_isWhere 23 = .ok (.bipush 20, 2) := by decide +kernel
theorem dX4_isWhere_25 : decode cX4_isWhere 25 = .ok (.isub, 1) := by decide +kernel
theorem dX4_isWhere_26 : decode cX4_isWhere 26 = .ok (.invokevirtual 84, 3) := by decide +kernel
theorem dX4_isWhere_29 : decode cX4_isWhere 29 = .ok (.ifCond .ne 9, 3) := by decide +kernel
theorem dX4_isWhere_32 : decode cX4_isWhere 32 = .ok (.iload_n 1, 1) := by decide +kernel
theorem dX4_isWhere_33 : decode cX4_isWhere 33 = .ok (.bipush 40, 2) := by decide +kernel
theorem dX4_isWhere_35 : decode cX4_isWhere 35 = .ok (.if_icmp .ne 7, 3) := by decide +kernel
theorem dX4_isWhere_38 : decode cX4_isWhere 38 = .ok (.iconst 1, 1) := by decide +kernel
theorem dX4_isWhere_39 : decode cX4_isWhere 39 = .ok (.goto 4, 3) := by decide +kernel
theorem dX4_isWhere_42 : decode cX4_isWhere 42 = .ok (.iconst 0, 1) := by decide +kernel
theorem dX4_isWhere_43 : decode cX4_isWhere 43 = .ok (.ireturn, 1) := by decide +kernel
theorem dX4_sumOf_0 : decode cX4_sumOf 0 = .ok (.bipush 19, 2) := by decide +kernel
theorem dX4_sumOf_2 : decode cX4_sumOf 2 = .ok (.istore_n 2, 1) := by decide +kernel
theorem dX4_sumOf_3 : decode cX4_sumOf 3 = .ok (.iconst 0, 1) := by decide +kernel
theorem dX4_sumOf_4 : decode cX4_sumOf 4 = .ok (.istore_n 3, 1) := by decide +kernel
theorem dX4_sumOf_5 : decode cX4_sumOf 5 = .ok (.iload_n 3, 1) := by decide +kernel
theorem dX4_sumOf_6 : decode cX4_sumOf 6 = .ok (.iload_n 1, 1) := by decide +kernel
theorem dX4_sumOf_7 : decode cX4_sumOf 7 = .ok (.if_icmp .ge 26, 3) := by decide +kernel
theorem dX4_sumOf_10 : decode cX4_sumOf 10 = .ok (.iload_n 3, 1) := by decide +kernel
theorem dX4_sumOf_11 : decode cX4_sumOf 11 = .ok (.sipush 1600, 3) := by decide +kernel
theorem dX4_sumOf_14 : decode cX4_sumOf 14 = .ok (.if_icmp .ge 19, 3) := by decide +kernel
theorem dX4_sumOf_17 : decode cX4_sumOf 17 = .ok (.iload_n 2, 1) := by decide +kernel
theorem dX4_sumOf_18 : decode cX4_sumOf 18 = .ok (.aload_n 0, 1) := by decide +kernel
theorem dX4_sumOf_19 : decode cX4_sumOf 19 = .ok (.iload_n 3, 1) := by decide +kernel
theorem dX4_sumOf_20 : decode cX4_sumOf 20 = .ok (.invokevirtual 58, 3) := by decide +kernel
theorem dX4_sumOf_23 : decode cX4_sumOf 23 = .ok (.invokestatic 51, 3) := by decide +kernel
theorem dX4_sumOf_26 : decode cX4_sumOf 26 = .ok (.istore_n 2, 1) := by decide +kernel
theorem dX4_sumOf_27 : decode cX4_sumOf 27 = .ok (.iinc 3 1, 3) := by decide +kernel
theorem dX4_sumOf_30 : decode cX4_sumOf 30 = .ok (.goto (-25), 3) := by decide +kernel
theorem dX4_sumOf_33 : decode cX4_sumOf 33 = .ok (.iload_n 2, 1) := by decide +kernel
theorem dX4_sumOf_34 : decode cX4_sumOf 34 = .ok (.ireturn, 1) := by decide +kernel
theorem dX5_statementWord_0 : decode cX5_statementWord 0 = .ok (.iconst 0, 1) := by decide +kernel
theorem dX5_statementWord_1 : decode cX5_statementWord 1 = .ok (.istore_n 2, 1) := by decide +kernel
theorem dX5_statementWord_2 : decode cX5_statementWord 2 = .ok (.iload_n 2, 1) := by decide +kernel
theorem dX5_statementWord_3 : decode cX5_statementWord 3 = .ok (.getstatic 109, 3) := by decide +kernel
theorem dX5_statementWord_6 : decode cX5_statementWord 6 = .ok (.arraylength, 1) := by decide +kernel
theorem dX5_statementWord_7 : decode cX5_statementWord 7 = .ok (.if_icmp .ge 76, 3) := by decide +kernel
theorem dX5_statementWord_10 : decode cX5_statementWord 10 = .ok (.aload_n 0, 1) := by decide +kernel
theorem dX5_statementWord_11 : decode cX5_statementWord 11 = .ok (.getfield 30, 3) := by decide +kernel
theorem dX5_statementWord_14 : decode cX5_statementWord 14 = .ok (.getfield 57, 3) := by decide +kernel
theorem dX5_statementWord_17 : decode cX5_statementWord 17 = .ok (.iconst 1, 1) := by decide +kernel
theorem dX5_statementWord_18 : decode cX5_statementWord 18 = .ok (.if_icmp .ne 59, 3) := by decide +kernel
theorem dX5_statementWord_21 : decode cX5_statementWord 21 = .ok (.aload_n 0, 1) := by decide +kernel
theorem dX5_statementWord_22 : decode cX5_statementWord 22 = .ok (.getfield 30, 3) := by decide +kernel
theorem dX5_statementWord_25 : decode cX5_statementWord 25 = .ok (.getfield 112, 3) := by decide +kernel
theorem dX5_statementWord_28 : decode cX5_statementWord 28 = .ok (.aload_n 0, 1) := by decide +kernel
theorem dX5_statementWord_29 : decode cX5_statementWord 29 = .ok (.getfield 9, 3) := by decide +kernel
theorem dX5_statementWord_32 : decode cX5_statementWord 32 = .ok (.iload_n 2, 1) := by decide +kernel
theorem dX5_statementWord_33 : decode cX5_statementWord 33 = .ok (.iaload, 1) := by decide +kernel
theorem dX5_statementWord_34 : decode cX5_statementWord 34 = .ok (.if_icmp .ne 43, 3) := by decide +kernel
theorem dX5_statementWord_37 : decode cX5_statementWord 37 = .ok (.getstatic 109, 3) := by decide +kernel
theorem dX5_statementWord_40 : decode cX5_statementWord 40 = .ok (.iload_n 2, 1) := by decide +kernel
theorem dX5_statementWord_41 : decode cX5_statementWord 41 = .ok (.iaload, 1) := by decide +kernel
theorem dX5_statementWord_42 : decode cX5_statementWord 42 = .ok (.istore_n 3, 1) := by decide +kernel
theorem dX5_statementWord_43 : decode cX5_statementWord 43 = .ok (.iload_n 3, 1) := by decide +kernel
theorem dX5_statementWord_44 : decode cX5_statementWord 44 = .ok (.iconst (-1), 1) := by decide +kernel
theorem dX5_statementWord_45 : decode cX5_statementWord 45 = .ok (.if_icmp .eq 23, 3) := by decide +kernel
theorem dX5_statementWord_48 : decode cX5_statementWord 48 = .ok (.aload_n 1, 1) := by decide +kernel
theorem dX5_statementWord_49 : decode cX5_statementWord 49 = .ok (.getfield 115, 3) := by decide +kernel
theorem dX5_statementWord_52 : decode cX5_statementWord 52 = .ok (.iload_n 3, 1) := by decide +kernel
theorem dX5_statementWord_53 : decode cX5_statementWord 53 = .ok (.iaload, 1) := by decide +kernel
theorem dX5_statementWord_54 : decode cX5_statementWord 54 = .ok (.getstatic 118, 3) := by decide +kernel
theorem dX5_statementWord_57 : decode cX5_statementWord 57 = .ok (.iload_n 3, 1) := by decide +kernel
theorem dX5_statementWord_58 : decode cX5_statementWord 58 = .ok (.iaload, 1) := by decide +kernel
theorem dX5_statementWord_59 : decode cX5_statementWord 59 = .ok (.if_icmp .lt 9, 3) := by decide +kernel
theorem dX5_statementWord_62 : decode cX5_statementWord 62 = .ok (.aload_n 0, 1) := by decide +kernel
theorem dX5_statementWord_63 : decode cX5_statementWord 63 = .ok (.iconst 5, 1) := by decide +kernel
theorem dX5_statementWord_64 : decode cX5_statementWord 64 = .ok (.invokevirtual 121, 3) := by decide +kernel
theorem dX5_statementWord_67 : decode cX5_statementWord 67 = .ok (.ireturn, 1) := by decide +kernel
theorem dX5_statementWord_68 : decode cX5_statementWord 68 = .ok (.aload_n 0, 1) := by decide +kernel
theorem dX5_statementWord_69 : decode cX5_statementWord 69 = .ok (.getfield 30, 3) := by decide +kernel
theorem dX5_statementWord_72 : decode cX5_statementWord 72 = .ok (.invokevirtual 125, 3) := by decide +kernel
theorem dX5_statementWord_75 : decode cX5_statementWord 75 = .ok (.iload_n 2, 1) := by decide +kernel
theorem dX5_statementWord_76 : decode cX5_statementWord 76 = .ok (.ireturn, 1) := by decide +kernel
theorem dX5_statementWord_77 : decode cX5_statementWord 77 = .ok (.iinc 2 1, 3) := by decide +kernel
theorem dX5_statementWord_80 : decode cX5_statementWord 80 = .ok (.goto (-78), 3) := by decide +kernel
theorem dX5_statementWord_83 : decode cX5_statementWord 83 = .ok (.aload_n 0, 1) := by decide +kernel
theorem dX5_statementWord_84 : decode cX5_statementWord 84 = .ok (.iconst 1, 1) := by decide +kernel
theorem dX5_statementWord_85 : decode cX5_statementWord 85 = .ok (.invokevirtual 121, 3) := by decide +kernel
theorem dX5_statementWord_88 : decode cX5_statementWord 88 = .ok (.ireturn, 1) := by decide +kernel
theorem dX5_sign_0 : decode cX5_sign 0 = .ok (.aload_n 0, 1) := by decide +kernel
theorem dX5_sign_1 : decode cX5_sign 1 = .ok (.getfield 30, 3) := by decide +kernel
theorem dX5_sign_4 : decode cX5_sign 4 = .ok (.invokevirtual 54, 3) := by decide +kernel
theorem dX5_sign_7 : decode cX5_sign 7 = .ok (.aload_n 0, 1) := by decide +kernel
theorem dX5_sign_8 : decode cX5_sign 8 = .ok (.getfield 30, 3) := by decide +kernel
theorem dX5_sign_11 : decode cX5_sign 11 = .ok (.iload_n 1, 1) := by decide +kernel
theorem dX5_sign_12 : decode cX5_sign 12 = .ok (.invokevirtual 241, 3) := by decide +kernel
theorem dX5_sign_15 : decode cX5_sign 15 = .ok (.ifCond .ne 9, 3) := by decide +kernel
theorem dX5_sign_18 : decode cX5_sign 18 = .ok (.aload_n 0, 1) := by decide +kernel
theorem dX5_sign_19 : decode cX5_sign 19 = .ok (.iconst 1, 1) := by decide +kernel
theorem dX5_sign_20 : decode cX5_sign 20 = .ok (.invokevirtual 132, 3) := by decide +kernel
theorem dX5_sign_23 : decode cX5_sign 23 = .ok (.ireturn, 1) := by decide +kernel
theorem dX5_sign_24 : decode cX5_sign 24 = .ok (.aload_n 0, 1) := by decide +kernel
theorem dX5_sign_25 : decode cX5_sign 25 = .ok (.getfield 30, 3) := by decide +kernel
theorem dX5_sign_28 : decode cX5_sign 28 = .ok (.invokevirtual 125, 3) := by decide +kernel
theorem dX5_sign_31 : decode cX5_sign 31 = .ok (.iconst 1, 1) := by decide +kernel
theorem dX5_sign_32 : decode cX5_sign 32 = .ok (.ireturn, 1) := by decide +kernel
theorem dX5_bad_0 : decode cX5_bad 0 = .ok (.aload_n 0, 1) := by decide +kernel
theorem dX5_bad_1 : decode cX5_bad 1 = .ok (.iload_n 1, 1) := by decide +kernel
theorem dX5_bad_2 : decode cX5_bad 2 = .ok (.putfield 15, 3) := by decide +kernel
theorem dX5_bad_5 : decode cX5_bad 5 = .ok (.aload_n 0, 1) := by decide +kernel
theorem dX5_bad_6 : decode cX5_bad 6 = .ok (.aload_n 0, 1) := by decide +kernel
theorem dX5_bad_7 : decode cX5_bad 7 = .ok (.getfield 30, 3) := by decide +kernel
theorem dX5_bad_10 : decode cX5_bad 10 = .ok (.getfield 250, 3) := by decide +kernel
theorem dX5_bad_13 : decode cX5_bad 13 = .ok (.putfield 19, 3) := by decide +kernel
theorem dX5_bad_16 : decode cX5_bad 16 = .ok (.iconst 0, 1) := by decide +kernel
theorem dX5_bad_17 : decode cX5_bad 17 = .ok (.ireturn, 1) := by decide +kernel
theorem dX5_none_0 : decode cX5_none 0 = .ok (.aload_n 0, 1) := by decide +kernel
theorem dX5_none_1 : decode cX5_none 1 = .ok (.iload_n 1, 1) := by decide +kernel
theorem dX5_none_2 : decode cX5_none 2 = .ok (.invokevirtual 132, 3) := by decide +kernel
theorem dX5_none_5 : decode cX5_none 5 = .ok (.pop, 1) := by decide +kernel
theorem dX5_none_6 : decode cX5_none 6 = .ok (.iconst (-1), 1) := by decide +kernel
theorem dX5_none_7 : decode cX5_none 7 = .ok (.ireturn, 1) := by decide +kernel
theorem dX6_placeInRow_0 : decode cX6_placeInRow 0 = .ok (.iconst 0, 1) := by decide +kernel
theorem dX6_placeInRow_1 : decode cX6_placeInRow 1 = .ok (.istore_n 3, 1) := by decide +kernel
theorem dX6_placeInRow_2 : decode cX6_placeInRow 2 = .ok (.iload_n 3, 1) := by decide +kernel
theorem dX6_placeInRow_3 : decode cX6_placeInRow 3 = .ok (.bipush 6, 2) := by decide +kernel
theorem dX6_placeInRow_5 : decode cX6_placeInRow 5 = .ok (.if_icmp .ge 26, 3) := by decide +kernel
theorem dX6_placeInRow_8 : decode cX6_placeInRow 8 = .ok (.iload_n 2, 1) := by decide +kernel
theorem dX6_placeInRow_9 : decode cX6_placeInRow 9 = .ok (.iconst (-1), 1) := by decide +kernel
theorem dX6_placeInRow_10 : decode cX6_placeInRow 10 = .ok (.if_icmp .eq 15, 3) := by decide +kernel
theorem dX6_placeInRow_13 : decode cX6_placeInRow 13 = .ok (.aload_n 0, 1) := by decide +kernel
theorem dX6_placeInRow_14 : decode cX6_placeInRow 14 = .ok (.iload_n 1, 1) := by decide +kernel
theorem dX6_placeInRow_15 : decode cX6_placeInRow 15 = .ok (.iload_n 3, 1) := by decide +kernel
theorem dX6_placeInRow_16 : decode cX6_placeInRow 16 = .ok (.invokevirtual 26, 3) := by decide +kernel
theorem dX6_placeInRow_19 : decode cX6_placeInRow 19 = .ok (.iload_n 2, 1) := by decide +kernel
theorem dX6_placeInRow_20 : decode cX6_placeInRow 20 = .ok (.if_icmp .ne 5, 3) := by decide +kernel
theorem dX6_placeInRow_23 : decode cX6_placeInRow 23 = .ok (.iload_n 3, 1) := by decide +kernel
theorem dX6_placeInRow_24 : decode cX6_placeInRow 24 = .ok (.ireturn, 1) := by decide +kernel
theorem dX6_placeInRow_25 : decode cX6_placeInRow 25 = .ok (.iinc 3 1, 3) := by decide +kernel
theorem dX6_placeInRow_28 : decode cX6_placeInRow 28 = .ok (.goto (-26), 3) := by decide +kernel
theorem dX6_placeInRow_31 : decode cX6_placeInRow 31 = .ok (.iconst (-1), 1) := by decide +kernel
theorem dX6_placeInRow_32 : decode cX6_placeInRow 32 = .ok (.ireturn, 1) := by decide +kernel
theorem dX6_push_0 : decode cX6_push 0 = .ok (.iload_n 1, 1) := by decide +kernel
theorem dX6_push_1 : decode cX6_push 1 = .ok (.ifCond .lt 18, 3) := by decide +kernel
theorem dX6_push_4 : decode cX6_push 4 = .ok (.iload_n 1, 1) := by decide +kernel
theorem dX6_push_5 : decode cX6_push 5 = .ok (.iconst 4, 1) := by decide +kernel
theorem dX6_push_6 : decode cX6_push 6 = .ok (.if_icmp .ge 13, 3) := by decide +kernel
theorem dX6_push_9 : decode cX6_push 9 = .ok (.aload_n 0, 1) := by decide +kernel
theorem dX6_push_10 : decode cX6_push 10 = .ok (.iload_n 1, 1) := by decide +kernel
theorem dX6_push_11 : decode cX6_push 11 = .ok (.iload_n 2, 1) := by decide +kernel
theorem dX6_push_12 : decode cX6_push 12 = .ok (.invokevirtual 30, 3) := by decide +kernel
theorem dX6_push_15 : decode cX6_push 15 = .ok (.iconst (-1), 1) := by decide +kernel
theorem dX6_push_16 : decode cX6_push 16 = .ok (.if_icmp .eq 5, 3) := by decide +kernel
theorem dX6_push_19 : decode cX6_push 19 = .ok (.iconst 0, 1) := by decide +kernel
theorem dX6_push_20 : decode cX6_push 20 = .ok (.ireturn, 1) := by decide +kernel
theorem dX6_push_21 : decode cX6_push 21 = .ok (.aload_n 0, 1) := by decide +kernel
theorem dX6_push_22 : decode cX6_push 22 = .ok (.getfield 18, 3) := by decide +kernel
theorem dX6_push_25 : decode cX6_push 25 = .ok (.iload_n 1, 1) := by decide +kernel
theorem dX6_push_26 : decode cX6_push 26 = .ok (.iaload, 1) := by decide +kernel
theorem dX6_push_27 : decode cX6_push 27 = .ok (.istore_n 3, 1) := by decide +kernel
theorem dX6_push_28 : decode cX6_push 28 = .ok (.iload_n 3, 1) := by decide +kernel
theorem dX6_push_29 : decode cX6_push 29 = .ok (.ifCond .lt 9, 3) := by decide +kernel
theorem dX6_push_32 : decode cX6_push 32 = .ok (.iload_n 3, 1) := by decide +kernel
theorem dX6_push_33 : decode cX6_push 33 = .ok (.bipush 6, 2) := by decide +kernel
theorem dX6_push_35 : decode cX6_push 35 = .ok (.if_icmp .lt 5, 3) := by decide +kernel
theorem dX6_push_38 : decode cX6_push 38 = .ok (.iconst 0, 1) := by decide +kernel
theorem dX6_push_39 : decode cX6_push 39 = .ok (.ireturn, 1) := by decide +kernel
theorem dX6_push_40 : decode cX6_push 40 = .ok (.aload_n 0, 1) := by decide +kernel
theorem dX6_push_41 : decode cX6_push 41 = .ok (.getfield 23, 3) := by decide +kernel
theorem dX6_push_44 : decode cX6_push 44 = .ok (.iload_n 1, 1) := by decide +kernel
theorem dX6_push_45 : decode cX6_push 45 = .ok (.aaload, 1) := by decide +kernel
theorem dX6_push_46 : decode cX6_push 46 = .ok (.iload_n 3, 1) := by decide +kernel
theorem dX6_push_47 : decode cX6_push 47 = .ok (.iload_n 2, 1) := by decide +kernel
theorem dX6_push_48 : decode cX6_push 48 = .ok (.iastore, 1) := by decide +kernel
theorem dX6_push_49 : decode cX6_push 49 = .ok (.aload_n 0, 1) := by decide +kernel
theorem dX6_push_50 : decode cX6_push 50 = .ok (.getfield 18, 3) := by decide +kernel
theorem dX6_push_53 : decode cX6_push 53 = .ok (.iload_n 1, 1) := by decide +kernel
theorem dX6_push_54 : decode cX6_push 54 = .ok (.iload_n 3, 1) := by decide +kernel
theorem dX6_push_55 : decode cX6_push 55 = .ok (.iconst 1, 1) := by decide +kernel
theorem dX6_push_56 : decode cX6_push 56 = .ok (.iadd, 1) := by decide +kernel
theorem dX6_push_57 : decode cX6_push 57 = .ok (.iastore, 1) := by decide +kernel
theorem dX6_push_58 : decode cX6_push 58 = .ok (.iconst 1, 1) := by decide +kernel
theorem dX6_push_59 : decode cX6_push 59 = .ok (.ireturn, 1) := by decide +kernel
theorem dX7_at_0 : decode cX7_at 0 = .ok (.iload_n 1, 1) := by decide +kernel
theorem dX7_at_1 : decode cX7_at 1 = .ok (.ifCond .lt 31, 3) := by decide +kernel
theorem dX7_at_4 : decode cX7_at 4 = .ok (.iload_n 1, 1) := by decide +kernel
theorem dX7_at_5 : decode cX7_at 5 = .ok (.aload_n 0, 1) := by decide +kernel
theorem dX7_at_6 : decode cX7_at 6 = .ok (.getfield 15, 3) := by decide +kernel
theorem dX7_at_9 : decode cX7_at 9 = .ok (.if_icmp .ge 23, 3) := by decide +kernel
theorem dX7_at_12 : decode cX7_at 12 = .ok (.iload_n 1, 1) := by decide +kernel
theorem dX7_at_13 : decode cX7_at 13 = .ok (.sipush 1600, 3) := by decide +kernel
theorem dX7_at_16 : decode cX7_at 16 = .ok (.if_icmp .ge 16, 3) := by decide +kernel
theorem dX7_at_19 : decode cX7_at 19 = .ok (.aload_n 0, 1) := by decide +kernel
theorem dX7_at_20 : decode cX7_at 20 = .ok (.getfield 9, 3) := by decide +kernel
theorem dX7_at_23 : decode cX7_at 23 = .ok (.iload_n 1, 1) := by decide +kernel
theorem dX7_at_24 : decode cX7_at 24 = .ok (.baload, 1) := by decide +kernel
theorem dX7_at_25 : decode cX7_at 25 = .ok (.sipush 255, 3) := by decide +kernel
theorem dX7_at_28 : decode cX7_at 28 = .ok (.iand, 1) := by decide +kernel
theorem dX7_at_29 : decode cX7_at 29 = .ok (.goto 4, 3) := by decide +kernel
theorem dX7_at_32 : decode cX7_at 32 = .ok (.iconst (-1), 1) := by decide +kernel
theorem dX7_at_33 : decode cX7_at 33 = .ok (.ireturn, 1) := by decide +kernel
theorem dX9_clear_0 : decode cX9_clear 0 = .ok (.iconst 0, 1) := by decide +kernel
theorem dX9_clear_1 : decode cX9_clear 1 = .ok (.istore_n 1, 1) := by decide +kernel
theorem dX9_clear_2 : decode cX9_clear 2 = .ok (.iload_n 1, 1) := by decide +kernel
theorem dX9_clear_3 : decode cX9_clear 3 = .ok (.bipush 8, 2) := by decide +kernel
theorem dX9_clear_5 : decode cX9_clear 5 = .ok (.if_icmp .ge 16, 3) := by decide +kernel
theorem dX9_clear_8 : decode cX9_clear 8 = .ok (.aload_n 0, 1) := by decide +kernel
theorem dX9_clear_9 : decode cX9_clear 9 = .ok (.getfield 9, 3) := by decide +kernel
theorem dX9_clear_12 : decode cX9_clear 12 = .ok (.iload_n 1, 1) := by decide +kernel
theorem dX9_clear_13 : decode cX9_clear 13 = .ok (.iconst 0, 1) := by decide +kernel
theorem dX9_clear_14 : decode cX9_clear 14 = .ok (.iastore, 1) := by decide +kernel
theorem dX9_clear_15 : decode cX9_clear 15 = .ok (.iinc 1 1, 3) := by decide +kernel
theorem dX9_clear_18 : decode cX9_clear 18 = .ok (.goto (-16), 3) := by decide +kernel
theorem dX9_clear_21 : decode cX9_clear 21 = .ok (.iconst 0, 1) := by decide +kernel
theorem dX9_clear_22 : decode cX9_clear 22 = .ok (.istore_n 1, 1) := by decide +kernel
theorem dX9_clear_23 : decode cX9_clear 23 = .ok (.iload_n 1, 1) := by decide +kernel
theorem dX9_clear_24 : decode cX9_clear 24 = .ok (.iconst 3, 1) := by decide +kernel
theorem dX9_clear_25 : decode cX9_clear 25 = .ok (.if_icmp .ge 16, 3) := by decide +kernel
theorem dX9_clear_28 : decode cX9_clear 28 = .ok (.aload_n 0, 1) := by decide +kernel
theorem dX9_clear_29 : decode cX9_clear 29 = .ok (.getfield 32, 3) := by decide +kernel
theorem dX9_clear_32 : decode cX9_clear 32 = .ok (.iload_n 1, 1) := by decide +kernel
theorem dX9_clear_33 : decode cX9_clear 33 = .ok (.iconst 0, 1) := by decide +kernel
theorem dX9_clear_34 : decode cX9_clear 34 = .ok (.iastore, 1) := by decide +kernel
theorem dX9_clear_35 : decode cX9_clear 35 = .ok (.iinc 1 1, 3) := by decide +kernel
theorem dX9_clear_38 : decode cX9_clear 38 = .ok (.goto (-15), 3) := by decide +kernel
theorem dX9_clear_41 : decode cX9_clear 41 = .ok (.iconst 0, 1) := by decide +kernel
theorem dX9_clear_42 : decode cX9_clear 42 = .ok (.istore_n 1, 1) := by decide +kernel
theorem dX9_clear_43 : decode cX9_clear 43 = .ok (.iload_n 1, 1) := by decide +kernel
theorem dX9_clear_44 : decode cX9_clear 44 = .ok (.iconst 4, 1) := by decide +kernel
theorem dX9_clear_45 : decode cX9_clear 45 = .ok (.if_icmp .ge 19, 3) := by decide +kernel
theorem dX9_clear_48 : decode cX9_clear 48 = .ok (.aload_n 0, 1) := by decide +kernel
theorem dX9_clear_49 : decode cX9_clear 49 = .ok (.getfield 63, 3) := by decide +kernel
theorem dX9_clear_52 : decode cX9_clear 52 = .ok (.getfield 71, 3) := by decide +kernel
theorem dX9_clear_55 : decode cX9_clear 55 = .ok (.iload_n 1, 1) := by decide +kernel
theorem dX9_clear_56 : decode cX9_clear 56 = .ok (.iconst 0, 1) := by decide +kernel
theorem dX9_clear_57 : decode cX9_clear 57 = .ok (.iastore, 1) := by decide +kernel
theorem dX9_clear_58 : decode cX9_clear 58 = .ok (.iinc 1 1, 3) := by decide +kernel
theorem dX9_clear_61 : decode cX9_clear 61 = .ok (.goto (-18), 3) := by decide +kernel
theorem dX9_clear_64 : decode cX9_clear 64 = .ok (.aload_n 0, 1) := by decide +kernel
theorem dX9_clear_65 : decode cX9_clear 65 = .ok (.getfield 56, 3) := by decide +kernel
theorem dX9_clear_68 : decode cX9_clear 68 = .ok (.iconst 0, 1) := by decide +kernel
theorem dX9_clear_69 : decode cX9_clear 69 = .ok (.putfield 74, 3) := by decide +kernel
theorem dX9_clear_72 : decode cX9_clear 72 = .ok (.aload_n 0, 1) := by decide +kernel
theorem dX9_clear_73 : decode cX9_clear 73 = .ok (.iconst 0, 1) := by decide +kernel
theorem dX9_clear_74 : decode cX9_clear 74 = .ok (.putfield 67, 3) := by decide +kernel
theorem dX9_clear_77 : decode cX9_clear 77 = .ok (.return_, 1) := by decide +kernel
