theorem dX12_works_0 : decode cX12_works 0 = .ok (.iconst 0, 1) := by decide +kernel
theorem dX12_works_1 : decode cX12_works 1 = .ok (.istore_n 3, 1) := by decide +kernel
theorem dX12_works_2 : decode cX12_works 2 = .ok (.sipush 1600, 3) := by decide +kernel
theorem dX12_works_5 : decode cX12_works 5 = .ok (.aload_n 0, 1) := by decide +kernel
theorem dX12_works_6 : decode cX12_works 6 = .ok (.getfield 48, 3) := by decide +kernel
theorem dX12_works_9 : decode cX12_works 9 = .ok (.imul, 1) := by decide +kernel
theorem dX12_works_10 : decode cX12_works 10 = .ok (.iload_n 1, 1) := by decide +kernel
theorem dX12_works_11 : decode cX12_works 11 = .ok (.iadd, 1) := by decide +kernel
theorem dX12_works_12 : decode cX12_works 12 = .ok (.istore 4, 2) := by decide +kernel
theorem dX12_works_14 : decode cX12_works 14 = .ok (.iload 4, 2) := by decide +kernel
theorem dX12_works_16 : decode cX12_works 16 = .ok (.sipush 1600, 3) := by decide +kernel
theorem dX12_works_19 : decode cX12_works 19 = .ok (.aload_n 0, 1) := by decide +kernel
theorem dX12_works_20 : decode cX12_works 20 = .ok (.getfield 48, 3) := by decide +kernel
theorem dX12_works_23 : decode cX12_works 23 = .ok (.imul, 1) := by decide +kernel
theorem dX12_works_24 : decode cX12_works 24 = .ok (.iload_n 2, 1) := by decide +kernel
theorem dX12_works_25 : decode cX12_works 25 = .ok (.iadd, 1) := by decide +kernel
theorem dX12_works_26 : decode cX12_works 26 = .ok (.if_icmp .ge 130, 3) := by decide +kernel
theorem dX12_works_29 : decode cX12_works 29 = .ok (.aload_n 0, 1) := by decide +kernel
theorem dX12_works_30 : decode cX12_works 30 = .ok (.getfield 146, 3) := by decide +kernel
theorem dX12_works_33 : decode cX12_works 33 = .ok (.iload 4, 2) := by decide +kernel
theorem dX12_works_35 : decode cX12_works 35 = .ok (.iaload, 1) := by decide +kernel
theorem dX12_works_36 : decode cX12_works 36 = .ok (.istore 5, 2) := by decide +kernel
theorem dX12_works_38 : decode cX12_works 38 = .ok (.iload 5, 2) := by decide +kernel
theorem dX12_works_40 : decode cX12_works 40 = .ok (.bipush 9, 2) := by decide +kernel
theorem dX12_works_42 : decode cX12_works 42 = .ok (.if_icmp .gt 50, 3) := by decide +kernel
theorem dX12_works_45 : decode cX12_works 45 = .ok (.aload_n 0, 1) := by decide +kernel
theorem dX12_works_46 : decode cX12_works 46 = .ok (.getfield 192, 3) := by decide +kernel
theorem dX12_works_49 : decode cX12_works 49 = .ok (.iload_n 3, 1) := by decide +kernel
theorem dX12_works_50 : decode cX12_works 50 = .ok (.iload 5, 2) := by decide +kernel
theorem dX12_works_52 : decode cX12_works 52 = .ok (.ifCond .ne 14, 3) := by decide +kernel
theorem dX12_works_55 : decode cX12_works 55 = .ok (.aload_n 0, 1) := by decide +kernel
theorem dX12_works_56 : decode cX12_works 56 = .ok (.getfield 149, 3) := by decide +kernel
theorem dX12_works_59 : decode cX12_works 59 = .ok (.iload 4, 2) := by decide +kernel
theorem dX12_works_61 : decode cX12_works 61 = .ok (.iaload, 1) := by decide +kernel
theorem dX12_works_62 : decode cX12_works 62 = .ok (.i2l, 1) := by decide +kernel
theorem dX12_works_63 : decode cX12_works 63 = .ok (.goto 22, 3) := by decide +kernel
theorem dX12_works_66 : decode cX12_works 66 = .ok (.iload 5, 2) := by decide +kernel
theorem dX12_works_68 : decode cX12_works 68 = .ok (.bipush 9, 2) := by decide +kernel
theorem dX12_works_70 : decode cX12_works 70 = .ok (.if_icmp .ne 7, 3) := by decide +kernel
theorem dX12_works_73 : decode cX12_works 73 = .ok (.lconst 1, 1) := by decide +kernel
theorem dX12_works_74 : decode cX12_works 74 = .ok (.goto 11, 3) := by decide +kernel
theorem dX12_works_77 : decode cX12_works 77 = .ok (.aload_n 0, 1) := by decide +kernel
theorem dX12_works_78 : decode cX12_works 78 = .ok (.getfield 195, 3) := by decide +kernel
theorem dX12_works_81 : decode cX12_works 81 = .ok (.iload 5, 2) := by decide +kernel
theorem dX12_works_83 : decode cX12_works 83 = .ok (.iaload, 1) := by decide +kernel
theorem dX12_works_84 : decode cX12_works 84 = .ok (.i2l, 1) := by decide +kernel
theorem dX12_works_85 : decode cX12_works 85 = .ok (.lastore, 1) := by decide +kernel
theorem dX12_works_86 : decode cX12_works 86 = .ok (.iinc 3 1, 3) := by decide +kernel
theorem dX12_works_89 : decode cX12_works 89 = .ok (.goto 61, 3) := by decide +kernel
theorem dX12_works_92 : decode cX12_works 92 = .ok (.iload 5, 2) := by decide +kernel
theorem dX12_works_94 : decode cX12_works 94 = .ok (.bipush 22, 2) := by decide +kernel
theorem dX12_works_96 : decode cX12_works 96 = .ok (.if_icmp .ne 24, 3) := by decide +kernel
theorem dX12_works_99 : decode cX12_works 99 = .ok (.aload_n 0, 1) := by decide +kernel
theorem dX12_works_100 : decode cX12_works 100 = .ok (.getfield 192, 3) := by decide +kernel
theorem dX12_works_103 : decode cX12_works 103 = .ok (.iload_n 3, 1) := by decide +kernel
theorem dX12_works_104 : decode cX12_works 104 = .ok (.iconst 1, 1) := by decide +kernel
theorem dX12_works_105 : decode cX12_works 105 = .ok (.isub, 1) := by decide +kernel
theorem dX12_works_106 : decode cX12_works 106 = .ok (.lconst 1, 1) := by decide +kernel
theorem dX12_works_107 : decode cX12_works 107 = .ok (.aload_n 0, 1) := by decide +kernel
theorem dX12_works_108 : decode cX12_works 108 = .ok (.getfield 192, 3) := by decide +kernel
theorem dX12_works_111 : decode cX12_works 111 = .ok (.iload_n 3, 1) := by decide +kernel
theorem dX12_works_112 : decode cX12_works 112 = .ok (.iconst 1, 1) := by decide +kernel
theorem dX12_works_113 : decode cX12_works 113 = .ok (.isub, 1) := by decide +kernel
theorem dX12_works_114 : decode cX12_works 114 = .ok (.laload, 1) := by decide +kernel
theorem dX12_works_115 : decode cX12_works 115 = .ok (.lsub, 1) := by decide +kernel
theorem dX12_works_116 : decode cX12_works 116 = .ok (.lastore, 1) := by decide +kernel
theorem dX12_works_117 : decode cX12_works 117 = .ok (.goto 33, 3) := by decide +kernel
theorem dX12_works_120 : decode cX12_works 120 = .ok (.iinc 3 (-1), 3) := by decide +kernel
theorem dX12_works_123 : decode cX12_works 123 = .ok (.aload_n 0, 1) := by decide +kernel
theorem dX12_works_124 : decode cX12_works 124 = .ok (.getfield 192, 3) := by decide +kernel
theorem dX12_works_127 : decode cX12_works 127 = .ok (.iload_n 3, 1) := by decide +kernel
theorem dX12_works_128 : decode cX12_works 128 = .ok (.iconst 1, 1) := by decide +kernel
theorem dX12_works_129 : decode cX12_works 129 = .ok (.isub, 1) := by decide +kernel
theorem dX12_works_130 : decode cX12_works 130 = .ok (.iload 5, 2) := by decide +kernel
theorem dX12_works_132 : decode cX12_works 132 = .ok (.aload_n 0, 1) := by decide +kernel
theorem dX12_works_133 : decode cX12_works 133 = .ok (.getfield 192, 3) := by decide +kernel
theorem dX12_works_136 : decode cX12_works 136 = .ok (.iload_n 3, 1) := by decide +kernel
theorem dX12_works_137 : decode cX12_works 137 = .ok (.iconst 1, 1) := by decide +kernel
theorem dX12_works_138 : decode cX12_works 138 = .ok (.isub, 1) := by decide +kernel
theorem dX12_works_139 : decode cX12_works 139 = .ok (.laload, 1) := by decide +kernel
theorem dX12_works_140 : decode cX12_works 140 = .ok (.aload_n 0, 1) := by decide +kernel
theorem dX12_works_141 : decode cX12_works 141 = .ok (.getfield 192, 3) := by decide +kernel
theorem dX12_works_144 : decode cX12_works 144 = .ok (.iload_n 3, 1) := by decide +kernel
theorem dX12_works_145 : decode cX12_works 145 = .ok (.laload, 1) := by decide +kernel
theorem dX12_works_146 : decode cX12_works 146 = .ok (.invokestatic 480, 3) := by decide +kernel
theorem dX12_works_149 : decode cX12_works 149 = .ok (.lastore, 1) := by decide +kernel
theorem dX12_works_150 : decode cX12_works 150 = .ok (.iinc 4 1, 3) := by decide +kernel
theorem dX12_works_153 : decode cX12_works 153 = .ok (.goto (-139), 3) := by decide +kernel
theorem dX12_works_156 : decode cX12_works 156 = .ok (.aload_n 0, 1) := by decide +kernel
theorem dX12_works_157 : decode cX12_works 157 = .ok (.getfield 192, 3) := by decide +kernel
theorem dX12_works_160 : decode cX12_works 160 = .ok (.iconst 0, 1) := by decide +kernel
theorem dX12_works_161 : decode cX12_works 161 = .ok (.laload, 1) := by decide +kernel
theorem dX12_works_162 : decode cX12_works 162 = .ok (.lreturn, 1) := by decide +kernel
theorem dX12_isBarred_0 : decode cX12_isBarred 0 = .ok (.aload_n 0, 1) := by decide +kernel
theorem dX12_isBarred_1 : decode cX12_isBarred 1 = .ok (.getfield 195, 3) := by decide +kernel
theorem dX12_isBarred_4 : decode cX12_isBarred 4 = .ok (.iconst 1, 1) := by decide +kernel
theorem dX12_isBarred_5 : decode cX12_isBarred 5 = .ok (.iload_n 2, 1) := by decide +kernel
theorem dX12_isBarred_6 : decode cX12_isBarred 6 = .ok (.iastore, 1) := by decide +kernel
theorem dX12_isBarred_7 : decode cX12_isBarred 7 = .ok (.aload_n 0, 1) := by decide +kernel
theorem dX12_isBarred_8 : decode cX12_isBarred 8 = .ok (.getfield 195, 3) := by decide +kernel
theorem dX12_isBarred_11 : decode cX12_isBarred 11 = .ok (.iconst 2, 1) := by decide +kernel
theorem dX12_isBarred_12 : decode cX12_isBarred 12 = .ok (.iload_n 3, 1) := by decide +kernel
theorem dX12_isBarred_13 : decode cX12_isBarred 13 = .ok (.iastore, 1) := by decide +kernel
theorem dX12_isBarred_14 : decode cX12_isBarred 14 = .ok (.aload_n 0, 1) := by decide +kernel
theorem dX12_isBarred_15 : decode cX12_isBarred 15 = .ok (.getfield 195, 3) := by decide +kernel
theorem dX12_isBarred_18 : decode cX12_isBarred 18 = .ok (.iconst 3, 1) := by decide +kernel
theorem dX12_isBarred_19 : decode cX12_isBarred 19 = .ok (.iload 4, 2) := by decide +kernel
theorem dX12_isBarred_21 : decode cX12_isBarred 21 = .ok (.iastore, 1) := by decide +kernel
theorem dX12_isBarred_22 : decode cX12_isBarred 22 = .ok (.aload_n 0, 1) := by decide +kernel
theorem dX12_isBarred_23 : decode cX12_isBarred 23 = .ok (.getfield 195, 3) := by decide +kernel
theorem dX12_isBarred_26 : decode cX12_isBarred 26 = .ok (.iconst 4, 1) := by decide +kernel
theorem dX12_isBarred_27 : decode cX12_isBarred 27 = .ok (.iload 5, 2) := by decide +kernel
theorem dX12_isBarred_29 : decode cX12_isBarred 29 = .ok (.iastore, 1) := by decide +kernel
theorem dX12_isBarred_30 : decode cX12_isBarred 30 = .ok (.bipush 6, 2) := by decide +kernel
theorem dX12_isBarred_32 : decode cX12_isBarred 32 = .ok (.aload_n 0, 1) := by decide +kernel
theorem dX12_isBarred_33 : decode cX12_isBarred 33 = .ok (.getfield 48, 3) := by decide +kernel
theorem dX12_isBarred_36 : decode cX12_isBarred 36 = .ok (.imul, 1) := by decide +kernel
theorem dX12_isBarred_37 : decode cX12_isBarred 37 = .ok (.istore 6, 2) := by decide +kernel
theorem dX12_isBarred_39 : decode cX12_isBarred 39 = .ok (.iload 6, 2) := by decide +kernel
theorem dX12_isBarred_41 : decode cX12_isBarred 41 = .ok (.bipush 6, 2) := by decide +kernel
theorem dX12_isBarred_43 : decode cX12_isBarred 43 = .ok (.aload_n 0, 1) := by decide +kernel
theorem dX12_isBarred_44 : decode cX12_isBarred 44 = .ok (.getfield 48, 3) := by decide +kernel
theorem dX12_isBarred_47 : decode cX12_isBarred 47 = .ok (.imul, 1) := by decide +kernel
theorem dX12_isBarred_48 : decode cX12_isBarred 48 = .ok (.aload_n 0, 1) := by decide +kernel
theorem dX12_isBarred_49 : decode cX12_isBarred 49 = .ok (.getfield 134, 3) := by decide +kernel
theorem dX12_isBarred_52 : decode cX12_isBarred 52 = .ok (.aload_n 0, 1) := by decide +kernel
theorem dX12_isBarred_53 : decode cX12_isBarred 53 = .ok (.getfield 48, 3) := by decide +kernel
theorem dX12_isBarred_56 : decode cX12_isBarred 56 = .ok (.iaload, 1) := by decide +kernel
theorem dX12_isBarred_57 : decode cX12_isBarred 57 = .ok (.iadd, 1) := by decide +kernel
theorem dX12_isBarred_58 : decode cX12_isBarred 58 = .ok (.if_icmp .ge 45, 3) := by decide +kernel
theorem dX12_isBarred_61 : decode cX12_isBarred 61 = .ok (.aload_n 0, 1) := by decide +kernel
theorem dX12_isBarred_62 : decode cX12_isBarred 62 = .ok (.getfield 137, 3) := by decide +kernel
theorem dX12_isBarred_65 : decode cX12_isBarred 65 = .ok (.iload 6, 2) := by decide +kernel
theorem dX12_isBarred_67 : decode cX12_isBarred 67 = .ok (.iaload, 1) := by decide +kernel
theorem dX12_isBarred_68 : decode cX12_isBarred 68 = .ok (.iload_n 1, 1) := by decide +kernel
theorem dX12_isBarred_69 : decode cX12_isBarred 69 = .ok (.if_icmp .ne 28, 3) := by decide +kernel
theorem dX12_isBarred_72 : decode cX12_isBarred 72 = .ok (.aload_n 0, 1) := by decide +kernel
theorem dX12_isBarred_73 : decode cX12_isBarred 73 = .ok (.aload_n 0, 1) := by decide +kernel
theorem dX12_isBarred_74 : decode cX12_isBarred 74 = .ok (.getfield 140, 3) := by decide +kernel
theorem dX12_isBarred_77 : decode cX12_isBarred 77 = .ok (.iload 6, 2) := by decide +kernel
theorem dX12_isBarred_79 : decode cX12_isBarred 79 = .ok (.iaload, 1) := by decide +kernel
theorem dX12_isBarred_80 : decode cX12_isBarred 80 = .ok (.aload_n 0, 1) := by decide +kernel
theorem dX12_isBarred_81 : decode cX12_isBarred 81 = .ok (.getfield 143, 3) := by decide +kernel
theorem dX12_isBarred_84 : decode cX12_isBarred 84 = .ok (.iload 6, 2) := by decide +kernel
theorem dX12_isBarred_86 : decode cX12_isBarred 86 = .ok (.iaload, 1) := by decide +kernel
theorem dX12_isBarred_87 : decode cX12_isBarred 87 = .ok (.invokevirtual 516, 3) := by decide +kernel
theorem dX12_isBarred_90 : decode cX12_isBarred 90 = .ok (.lconst 1, 1) := by decide +kernel
theorem dX12_isBarred_91 : decode cX12_isBarred 91 = .ok (.lcmp, 1) := by decide +kernel
theorem dX12_isBarred_92 : decode cX12_isBarred 92 = .ok (.ifCond .ne 5, 3) := by decide +kernel
theorem dX12_isBarred_95 : decode cX12_isBarred 95 = .ok (.iconst 1, 1) := by decide +kernel
theorem dX12_isBarred_96 : decode cX12_isBarred 96 = .ok (.ireturn, 1) := by decide +kernel
theorem dX12_isBarred_97 : decode cX12_isBarred 97 = .ok (.iinc 6 1, 3) := by decide +kernel
theorem dX12_isBarred_100 : decode cX12_isBarred 100 = .ok (.goto (-61), 3) := by decide +kernel
theorem dX12_isBarred_103 : decode cX12_isBarred 103 = .ok (.iconst 0, 1) := by decide +kernel
theorem dX12_isBarred_104 : decode cX12_isBarred 104 = .ok (.ireturn, 1) := by decide +kernel
theorem dX12_gone_0 : decode cX12_gone 0 = .ok (.aload_n 0, 1) := by decide +kernel
theorem dX12_gone_1 : decode cX12_gone 1 = .ok (.iload_n 1, 1) := by decide +kernel
theorem dX12_gone_2 : decode cX12_gone 2 = .ok (.invokevirtual 520, 3) := by decide +kernel
theorem dX12_gone_5 : decode cX12_gone 5 = .ok (.istore_n 3, 1) := by decide +kernel
theorem dX12_gone_6 : decode cX12_gone 6 = .ok (.aload_n 0, 1) := by decide +kernel
theorem dX12_gone_7 : decode cX12_gone 7 = .ok (.getfield 70, 3) := by decide +kernel
theorem dX12_gone_10 : decode cX12_gone 10 = .ok (.aload_n 0, 1) := by decide +kernel
theorem dX12_gone_11 : decode cX12_gone 11 = .ok (.iload_n 2, 1) := by decide +kernel
theorem dX12_gone_12 : decode cX12_gone 12 = .ok (.invokevirtual 487, 3) := by decide +kernel
theorem dX12_gone_15 : decode cX12_gone 15 = .ok (.baload, 1) := by decide +kernel
theorem dX12_gone_16 : decode cX12_gone 16 = .ok (.ifCond .ne 42, 3) := by decide +kernel
theorem dX12_gone_19 : decode cX12_gone 19 = .ok (.aload_n 0, 1) := by decide +kernel
theorem dX12_gone_20 : decode cX12_gone 20 = .ok (.iload_n 3, 1) := by decide +kernel
theorem dX12_gone_21 : decode cX12_gone 21 = .ok (.iload_n 2, 1) := by decide +kernel
theorem dX12_gone_22 : decode cX12_gone 22 = .ok (.invokevirtual 523, 3) := by decide +kernel
theorem dX12_gone_25 : decode cX12_gone 25 = .ok (.ifCond .eq 33, 3) := by decide +kernel
theorem dX12_gone_28 : decode cX12_gone 28 = .ok (.aload_n 0, 1) := by decide +kernel
theorem dX12_gone_29 : decode cX12_gone 29 = .ok (.iload_n 2, 1) := by decide +kernel
theorem dX12_gone_30 : decode cX12_gone 30 = .ok (.invokevirtual 493, 3) := by decide +kernel
theorem dX12_gone_33 : decode cX12_gone 33 = .ok (.ifCond .ne 25, 3) := by decide +kernel
theorem dX12_gone_36 : decode cX12_gone 36 = .ok (.aload_n 0, 1) := by decide +kernel
theorem dX12_gone_37 : decode cX12_gone 37 = .ok (.iload_n 2, 1) := by decide +kernel
theorem dX12_gone_38 : decode cX12_gone 38 = .ok (.iload_n 1, 1) := by decide +kernel
theorem dX12_gone_39 : decode cX12_gone 39 = .ok (.iload_n 3, 1) := by decide +kernel
theorem dX12_gone_40 : decode cX12_gone 40 = .ok (.aload_n 0, 1) := by decide +kernel
theorem dX12_gone_41 : decode cX12_gone 41 = .ok (.iload_n 1, 1) := by decide +kernel
theorem dX12_gone_42 : decode cX12_gone 42 = .ok (.invokevirtual 526, 3) := by decide +kernel
theorem dX12_gone_45 : decode cX12_gone 45 = .ok (.invokestatic 529, 3) := by decide +kernel
theorem dX12_gone_48 : decode cX12_gone 48 = .ok (.aload_n 0, 1) := by decide +kernel
theorem dX12_gone_49 : decode cX12_gone 49 = .ok (.invokevirtual 496, 3) := by decide +kernel
theorem dX12_gone_52 : decode cX12_gone 52 = .ok (.invokevirtual 532, 3) := by decide +kernel
theorem dX12_gone_55 : decode cX12_gone 55 = .ok (.ifCond .eq 5, 3) := by decide +kernel
theorem dX12_gone_58 : decode cX12_gone 58 = .ok (.iconst (-1), 1) := by decide +kernel
theorem dX12_gone_59 : decode cX12_gone 59 = .ok (.ireturn, 1) := by decide +kernel
theorem dX12_gone_60 : decode cX12_gone 60 = .ok (.aload_n 0, 1) := by decide +kernel
theorem dX12_gone_61 : decode cX12_gone 61 = .ok (.getfield 101, 3) := by decide +kernel
theorem dX12_gone_64 : decode cX12_gone 64 = .ok (.iconst 3, 1) := by decide +kernel
theorem dX12_gone_65 : decode cX12_gone 65 = .ok (.aload_n 0, 1) := by decide +kernel
theorem dX12_gone_66 : decode cX12_gone 66 = .ok (.getfield 48, 3) := by decide +kernel
theorem dX12_gone_69 : decode cX12_gone 69 = .ok (.imul, 1) := by decide +kernel
theorem dX12_gone_70 : decode cX12_gone 70 = .ok (.iload_n 1, 1) := by decide +kernel
theorem dX12_gone_71 : decode cX12_gone 71 = .ok (.iadd, 1) := by decide +kernel
theorem dX12_gone_72 : decode cX12_gone 72 = .ok (.aload_n 0, 1) := by decide +kernel
theorem dX12_gone_73 : decode cX12_gone 73 = .ok (.iload_n 2, 1) := by decide +kernel
theorem dX12_gone_74 : decode cX12_gone 74 = .ok (.iload_n 3, 1) := by decide +kernel
theorem dX12_gone_75 : decode cX12_gone 75 = .ok (.invokevirtual 536, 3) := by decide +kernel
theorem dX12_gone_78 : decode cX12_gone 78 = .ok (.iastore, 1) := by decide +kernel
theorem dX12_gone_79 : decode cX12_gone 79 = .ok (.aload_n 0, 1) := by decide +kernel
theorem dX12_gone_80 : decode cX12_gone 80 = .ok (.iload_n 1, 1) := by decide +kernel
theorem dX12_gone_81 : decode cX12_gone 81 = .ok (.invokevirtual 520, 3) := by decide +kernel
theorem dX12_gone_84 : decode cX12_gone 84 = .ok (.ireturn, 1) := by decide +kernel
theorem dX12_go_0 : decode cX12_go 0 = .ok (.aload_n 0, 1) := by decide +kernel
theorem dX12_go_1 : decode cX12_go 1 = .ok (.iload_n 1, 1) := by decide +kernel
theorem dX12_go_2 : decode cX12_go 2 = .ok (.invokevirtual 539, 3) := by decide +kernel
theorem dX12_go_5 : decode cX12_go 5 = .ok (.ifCond .eq 20, 3) := by decide +kernel
theorem dX12_go_8 : decode cX12_go 8 = .ok (.aload_n 0, 1) := by decide +kernel
theorem dX12_go_9 : decode cX12_go 9 = .ok (.iload_n 2, 1) := by decide +kernel
theorem dX12_go_10 : decode cX12_go 10 = .ok (.invokevirtual 507, 3) := by decide +kernel
theorem dX12_go_13 : decode cX12_go 13 = .ok (.ifCond .eq 12, 3) := by decide +kernel
theorem dX12_go_16 : decode cX12_go 16 = .ok (.aload_n 0, 1) := by decide +kernel
theorem dX12_go_17 : decode cX12_go 17 = .ok (.iload_n 1, 1) := by decide +kernel
theorem dX12_go_18 : decode cX12_go 18 = .ok (.iload_n 2, 1) := by decide +kernel
theorem dX12_go_19 : decode cX12_go 19 = .ok (.invokevirtual 542, 3) := by decide +kernel
theorem dX12_go_22 : decode cX12_go 22 = .ok (.goto 4, 3) := by decide +kernel
theorem dX12_go_25 : decode cX12_go 25 = .ok (.iconst (-1), 1) := by decide +kernel
theorem dX12_go_26 : decode cX12_go 26 = .ok (.istore_n 3, 1) := by decide +kernel
theorem dX12_go_27 : decode cX12_go 27 = .ok (.iload_n 3, 1) := by decide +kernel
theorem dX12_go_28 : decode cX12_go 28 = .ok (.iconst (-1), 1) := by decide +kernel
theorem dX12_go_29 : decode cX12_go 29 = .ok (.if_icmp .ne 11, 3) := by decide +kernel
theorem dX12_go_32 : decode cX12_go 32 = .ok (.aload_n 0, 1) := by decide +kernel
theorem dX12_go_33 : decode cX12_go 33 = .ok (.iconst 2, 1) := by decide +kernel
theorem dX12_go_34 : decode cX12_go 34 = .ok (.invokevirtual 271, 3) := by decide +kernel
theorem dX12_go_37 : decode cX12_go 37 = .ok (.goto 4, 3) := by decide +kernel
theorem dX12_go_40 : decode cX12_go 40 = .ok (.iload_n 3, 1) := by decide +kernel
theorem dX12_go_41 : decode cX12_go 41 = .ok (.ireturn, 1) := by decide +kernel
theorem dX12_told_0 : decode cX12_told 0 = .ok (.aload_n 0, 1) := by decide +kernel
theorem dX12_told_1 : decode cX12_told 1 = .ok (.iload_n 1, 1) := by decide +kernel
theorem dX12_told_2 : decode cX12_told 2 = .ok (.invokevirtual 539, 3) := by decide +kernel
theorem dX12_told_5 : decode cX12_told 5 = .ok (.ifCond .ne 5, 3) := by decide +kernel
theorem dX12_told_8 : decode cX12_told 8 = .ok (.iconst (-1), 1) := by decide +kernel
theorem dX12_told_9 : decode cX12_told 9 = .ok (.ireturn, 1) := by decide +kernel
theorem dX12_told_10 : decode cX12_told 10 = .ok (.iload_n 2, 1) := by decide +kernel
theorem dX12_told_11 : decode cX12_told 11 = .ok (.ifCond .ne 22, 3) := by decide +kernel
theorem dX12_told_14 : decode cX12_told 14 = .ok (.aload_n 0, 1) := by decide +kernel
theorem dX12_told_15 : decode cX12_told 15 = .ok (.iload_n 3, 1) := by decide +kernel
theorem dX12_told_16 : decode cX12_told 16 = .ok (.invokevirtual 507, 3) := by decide +kernel
theorem dX12_told_19 : decode cX12_told 19 = .ok (.ifCond .eq 12, 3) := by decide +kernel
theorem dX12_told_22 : decode cX12_told 22 = .ok (.aload_n 0, 1) := by decide +kernel
theorem dX12_told_23 : decode cX12_told 23 = .ok (.iload_n 1, 1) := by decide +kernel
theorem dX12_told_24 : decode cX12_told 24 = .ok (.iload_n 3, 1) := by decide +kernel
theorem dX12_told_25 : decode cX12_told 25 = .ok (.invokevirtual 542, 3) := by decide +kernel
theorem dX12_told_28 : decode cX12_told 28 = .ok (.goto 4, 3) := by decide +kernel
theorem dX12_told_31 : decode cX12_told 31 = .ok (.iconst (-1), 1) := by decide +kernel
theorem dX12_told_32 : decode cX12_told 32 = .ok (.ireturn, 1) := by decide +kernel
theorem dX12_told_33 : decode cX12_told 33 = .ok (.iload_n 2, 1) := by decide +kernel
theorem dX12_told_34 : decode cX12_told 34 = .ok (.iconst 1, 1) := by decide +kernel
theorem dX12_told_35 : decode cX12_told 35 = .ok (.if_icmp .ne 22, 3) := by decide +kernel
theorem dX12_told_38 : decode cX12_told 38 = .ok (.aload_n 0, 1) := by decide +kernel
theorem dX12_told_39 : decode cX12_told 39 = .ok (.iload_n 3, 1) := by decide +kernel
theorem dX12_told_40 : decode cX12_told 40 = .ok (.invokevirtual 510, 3) := by decide +kernel
theorem dX12_told_43 : decode cX12_told 43 = .ok (.ifCond .eq 12, 3) := by decide +kernel
theorem dX12_told_46 : decode cX12_told 46 = .ok (.aload_n 0, 1) := by decide +kernel
theorem dX12_told_47 : decode cX12_told 47 = .ok (.iload_n 1, 1) := by decide +kernel
theorem dX12_told_48 : decode cX12_told 48 = .ok (.iload_n 3, 1) := by decide +kernel
theorem dX12_told_49 : decode cX12_told 49 = .ok (.invokevirtual 545, 3) := by decide +kernel
theorem dX12_told_52 : decode cX12_told 52 = .ok (.goto 4, 3) := by decide +kernel
theorem dX12_told_55 : decode cX12_told 55 = .ok (.iconst (-1), 1) := by decide +kernel
theorem dX12_told_56 : decode cX12_told 56 = .ok (.ireturn, 1) := by decide +kernel
theorem dX12_told_57 : decode cX12_told 57 = .ok (.iload_n 2, 1) := by decide +kernel
theorem dX12_told_58 : decode cX12_told 58 = .ok (.iconst 2, 1) := by decide +kernel
theorem dX12_told_59 : decode cX12_told 59 = .ok (.if_icmp .ne 20, 3) := by decide +kernel
theorem dX12_told_62 : decode cX12_told 62 = .ok (.aload_n 0, 1) := by decide +kernel
theorem dX12_told_63 : decode cX12_told 63 = .ok (.iload_n 3, 1) := by decide +kernel
theorem dX12_told_64 : decode cX12_told 64 = .ok (.invokevirtual 507, 3) := by decide +kernel
theorem dX12_told_67 : decode cX12_told 67 = .ok (.ifCond .eq 12, 3) := by decide +kernel
theorem dX12_told_70 : decode cX12_told 70 = .ok (.aload_n 0, 1) := by decide +kernel
theorem dX12_told_71 : decode cX12_told 71 = .ok (.iload_n 1, 1) := by decide +kernel
theorem dX12_told_72 : decode cX12_told 72 = .ok (.iload_n 3, 1) := by decide +kernel
theorem dX12_told_73 : decode cX12_told 73 = .ok (.invokevirtual 555, 3) := by decide +kernel
theorem dX12_told_76 : decode cX12_told 76 = .ok (.goto 4, 3) := by decide +kernel
theorem dX12_told_79 : decode cX12_told 79 = .ok (.iconst (-1), 1) := by decide +kernel
theorem dX12_told_80 : decode cX12_told 80 = .ok (.istore 4, 2) := by decide +kernel
theorem dX12_told_82 : decode cX12_told 82 = .ok (.iload 4, 2) := by decide +kernel
theorem dX12_told_84 : decode cX12_told 84 = .ok (.iconst (-1), 1) := by decide +kernel
theorem dX12_told_85 : decode cX12_told 85 = .ok (.if_icmp .ne 7, 3) := by decide +kernel
theorem dX12_told_88 : decode cX12_told 88 = .ok (.iconst (-1), 1) := by decide +kernel
theorem dX12_told_89 : decode cX12_told 89 = .ok (.goto 11, 3) := by decide +kernel
theorem dX12_told_92 : decode cX12_told 92 = .ok (.aload_n 0, 1) := by decide +kernel
theorem dX12_told_93 : decode cX12_told 93 = .ok (.iload_n 1, 1) := by decide +kernel
theorem dX12_told_94 : decode cX12_told 94 = .ok (.iload 4, 2) := by decide +kernel
theorem dX12_told_96 : decode cX12_told 96 = .ok (.iload_n 3, 1) := by decide +kernel
theorem dX12_told_97 : decode cX12_told 97 = .ok (.invokevirtual 548, 3) := by decide +kernel
theorem dX12_told_100 : decode cX12_told 100 = .ok (.ireturn, 1) := by decide +kernel
theorem dX12_row_0 : decode cX12_row 0 = .ok (.aload_n 0, 1) := by decide +kernel
theorem dX12_row_1 : decode cX12_row 1 = .ok (.getfield 13, 3) := by decide +kernel
theorem dX12_row_4 : decode cX12_row 4 = .ok (.istore_n 1, 1) := by decide +kernel
theorem dX12_row_5 : decode cX12_row 5 = .ok (.aload_n 0, 1) := by decide +kernel
theorem dX12_row_6 : decode cX12_row 6 = .ok (.iconst 0, 1) := by decide +kernel
theorem dX12_row_7 : decode cX12_row 7 = .ok (.putfield 13, 3) := by decide +kernel
theorem dX12_row_10 : decode cX12_row 10 = .ok (.aload_n 0, 1) := by decide +kernel
theorem dX12_row_11 : decode cX12_row 11 = .ok (.invokevirtual 558, 3) := by decide +kernel
theorem dX12_row_14 : decode cX12_row 14 = .ok (.iconst (-1), 1) := by decide +kernel
theorem dX12_row_15 : decode cX12_row 15 = .ok (.istore_n 2, 1) := by decide +kernel
theorem dX12_row_16 : decode cX12_row 16 = .ok (.iconst 0, 1) := by decide +kernel
theorem dX12_row_17 : decode cX12_row 17 = .ok (.istore_n 3, 1) := by decide +kernel
theorem dX12_row_18 : decode cX12_row 18 = .ok (.iload_n 3, 1) := by decide +kernel
theorem dX12_row_19 : decode cX12_row 19 = .ok (.iload_n 1, 1) := by decide +kernel
theorem dX12_row_20 : decode cX12_row 20 = .ok (.if_icmp .ge 67, 3) := by decide +kernel
theorem dX12_row_23 : decode cX12_row 23 = .ok (.iload_n 2, 1) := by decide +kernel
theorem dX12_row_24 : decode cX12_row 24 = .ok (.iconst (-1), 1) := by decide +kernel
theorem dX12_row_25 : decode cX12_row 25 = .ok (.if_icmp .ne 62, 3) := by decide +kernel
theorem dX12_row_28 : decode cX12_row 28 = .ok (.iload_n 3, 1) := by decide +kernel
theorem dX12_row_29 : decode cX12_row 29 = .ok (.iconst 3, 1) := by decide +kernel
theorem dX12_row_30 : decode cX12_row 30 = .ok (.iadd, 1) := by decide +kernel
theorem dX12_row_31 : decode cX12_row 31 = .ok (.iload_n 1, 1) := by decide +kernel
theorem dX12_row_32 : decode cX12_row 32 = .ok (.if_icmp .gt 32, 3) := by decide +kernel
theorem dX12_row_35 : decode cX12_row 35 = .ok (.aload_n 0, 1) := by decide +kernel
theorem dX12_row_36 : decode cX12_row 36 = .ok (.aload_n 0, 1) := by decide +kernel
theorem dX12_row_37 : decode cX12_row 37 = .ok (.getfield 7, 3) := by decide +kernel
theorem dX12_row_40 : decode cX12_row 40 = .ok (.iload_n 3, 1) := by decide +kernel
theorem dX12_row_41 : decode cX12_row 41 = .ok (.iaload, 1) := by decide +kernel
theorem dX12_row_42 : decode cX12_row 42 = .ok (.aload_n 0, 1) := by decide +kernel
theorem dX12_row_43 : decode cX12_row 43 = .ok (.getfield 7, 3) := by decide +kernel
theorem dX12_row_46 : decode cX12_row 46 = .ok (.iload_n 3, 1) := by decide +kernel
theorem dX12_row_47 : decode cX12_row 47 = .ok (.iconst 1, 1) := by decide +kernel
theorem dX12_row_48 : decode cX12_row 48 = .ok (.iadd, 1) := by decide +kernel
theorem dX12_row_49 : decode cX12_row 49 = .ok (.iaload, 1) := by decide +kernel
theorem dX12_row_50 : decode cX12_row 50 = .ok (.aload_n 0, 1) := by decide +kernel
theorem dX12_row_51 : decode cX12_row 51 = .ok (.getfield 7, 3) := by decide +kernel
theorem dX12_row_54 : decode cX12_row 54 = .ok (.iload_n 3, 1) := by decide +kernel
theorem dX12_row_55 : decode cX12_row 55 = .ok (.iconst 2, 1) := by decide +kernel
theorem dX12_row_56 : decode cX12_row 56 = .ok (.iadd, 1) := by decide +kernel
theorem dX12_row_57 : decode cX12_row 57 = .ok (.iaload, 1) := by decide +kernel
theorem dX12_row_58 : decode cX12_row 58 = .ok (.invokevirtual 561, 3) := by decide +kernel
theorem dX12_row_61 : decode cX12_row 61 = .ok (.goto 4, 3) := by decide +kernel
theorem dX12_row_64 : decode cX12_row 64 = .ok (.iconst (-1), 1) := by decide +kernel
theorem dX12_row_65 : decode cX12_row 65 = .ok (.istore 4, 2) := by decide +kernel
theorem dX12_row_67 : decode cX12_row 67 = .ok (.iload 4, 2) := by decide +kernel
theorem dX12_row_69 : decode cX12_row 69 = .ok (.iconst (-1), 1) := by decide +kernel
theorem dX12_row_70 : decode cX12_row 70 = .ok (.if_icmp .ne 9, 3) := by decide +kernel
theorem dX12_row_73 : decode cX12_row 73 = .ok (.iload_n 3, 1) := by decide +kernel
theorem dX12_row_74 : decode cX12_row 74 = .ok (.iconst 3, 1) := by decide +kernel
theorem dX12_row_75 : decode cX12_row 75 = .ok (.idiv, 1) := by decide +kernel
theorem dX12_row_76 : decode cX12_row 76 = .ok (.goto 4, 3) := by decide +kernel
theorem dX12_row_79 : decode cX12_row 79 = .ok (.iconst (-1), 1) := by decide +kernel
theorem dX12_row_80 : decode cX12_row 80 = .ok (.istore_n 2, 1) := by decide +kernel
theorem dX12_row_81 : decode cX12_row 81 = .ok (.iinc 3 3, 3) := by decide +kernel
theorem dX12_row_84 : decode cX12_row 84 = .ok (.goto (-66), 3) := by decide +kernel
theorem dX12_row_87 : decode cX12_row 87 = .ok (.aload_n 0, 1) := by decide +kernel
theorem dX12_row_88 : decode cX12_row 88 = .ok (.invokevirtual 564, 3) := by decide +kernel
theorem dX12_row_91 : decode cX12_row 91 = .ok (.iload_n 2, 1) := by decide +kernel
theorem dX12_row_92 : decode cX12_row 92 = .ok (.ireturn, 1) := by decide +kernel
