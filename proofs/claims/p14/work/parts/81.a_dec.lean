theorem dX12_statement_0 : decode cX12_statement 0 = .ok (.aload_n 0, 1) := by decide +kernel
theorem dX12_statement_1 : decode cX12_statement 1 = .ok (.ldc2_w 296, 3) := by decide +kernel
theorem dX12_statement_4 : decode cX12_statement 4 = .ok (.invokevirtual 368, 3) := by decide +kernel
theorem dX12_statement_7 : decode cX12_statement 7 = .ok (.ifCond .eq 10, 3) := by decide +kernel
theorem dX12_statement_10 : decode cX12_statement 10 = .ok (.aload_n 0, 1) := by decide +kernel
theorem dX12_statement_11 : decode cX12_statement 11 = .ok (.invokevirtual 427, 3) := by decide +kernel
theorem dX12_statement_14 : decode cX12_statement 14 = .ok (.goto 94, 3) := by decide +kernel
theorem dX12_statement_17 : decode cX12_statement 17 = .ok (.aload_n 0, 1) := by decide +kernel
theorem dX12_statement_18 : decode cX12_statement 18 = .ok (.ldc2_w 298, 3) := by decide +kernel
theorem dX12_statement_21 : decode cX12_statement 21 = .ok (.invokevirtual 368, 3) := by decide +kernel
theorem dX12_statement_24 : decode cX12_statement 24 = .ok (.ifCond .eq 11, 3) := by decide +kernel
theorem dX12_statement_27 : decode cX12_statement 27 = .ok (.aload_n 0, 1) := by decide +kernel
theorem dX12_statement_28 : decode cX12_statement 28 = .ok (.iconst 0, 1) := by decide +kernel
theorem dX12_statement_29 : decode cX12_statement 29 = .ok (.invokevirtual 430, 3) := by decide +kernel
theorem dX12_statement_32 : decode cX12_statement 32 = .ok (.goto 76, 3) := by decide +kernel
theorem dX12_statement_35 : decode cX12_statement 35 = .ok (.aload_n 0, 1) := by decide +kernel
theorem dX12_statement_36 : decode cX12_statement 36 = .ok (.ldc2_w 300, 3) := by decide +kernel
theorem dX12_statement_39 : decode cX12_statement 39 = .ok (.invokevirtual 368, 3) := by decide +kernel
theorem dX12_statement_42 : decode cX12_statement 42 = .ok (.ifCond .eq 11, 3) := by decide +kernel
theorem dX12_statement_45 : decode cX12_statement 45 = .ok (.aload_n 0, 1) := by decide +kernel
theorem dX12_statement_46 : decode cX12_statement 46 = .ok (.iconst 1, 1) := by decide +kernel
theorem dX12_statement_47 : decode cX12_statement 47 = .ok (.invokevirtual 430, 3) := by decide +kernel
theorem dX12_statement_50 : decode cX12_statement 50 = .ok (.goto 58, 3) := by decide +kernel
theorem dX12_statement_53 : decode cX12_statement 53 = .ok (.aload_n 0, 1) := by decide +kernel
theorem dX12_statement_54 : decode cX12_statement 54 = .ok (.ldc2_w 304, 3) := by decide +kernel
theorem dX12_statement_57 : decode cX12_statement 57 = .ok (.invokevirtual 368, 3) := by decide +kernel
theorem dX12_statement_60 : decode cX12_statement 60 = .ok (.ifCond .eq 10, 3) := by decide +kernel
theorem dX12_statement_63 : decode cX12_statement 63 = .ok (.aload_n 0, 1) := by decide +kernel
theorem dX12_statement_64 : decode cX12_statement 64 = .ok (.invokevirtual 433, 3) := by decide +kernel
theorem dX12_statement_67 : decode cX12_statement 67 = .ok (.goto 41, 3) := by decide +kernel
theorem dX12_statement_70 : decode cX12_statement 70 = .ok (.aload_n 0, 1) := by decide +kernel
theorem dX12_statement_71 : decode cX12_statement 71 = .ok (.ldc2_w 308, 3) := by decide +kernel
theorem dX12_statement_74 : decode cX12_statement 74 = .ok (.invokevirtual 368, 3) := by decide +kernel
theorem dX12_statement_77 : decode cX12_statement 77 = .ok (.ifCond .eq 10, 3) := by decide +kernel
theorem dX12_statement_80 : decode cX12_statement 80 = .ok (.aload_n 0, 1) := by decide +kernel
theorem dX12_statement_81 : decode cX12_statement 81 = .ok (.invokevirtual 436, 3) := by decide +kernel
theorem dX12_statement_84 : decode cX12_statement 84 = .ok (.goto 24, 3) := by decide +kernel
theorem dX12_statement_87 : decode cX12_statement 87 = .ok (.aload_n 0, 1) := by decide +kernel
theorem dX12_statement_88 : decode cX12_statement 88 = .ok (.ldc2_w 310, 3) := by decide +kernel
theorem dX12_statement_91 : decode cX12_statement 91 = .ok (.invokevirtual 368, 3) := by decide +kernel
theorem dX12_statement_94 : decode cX12_statement 94 = .ok (.ifCond .eq 10, 3) := by decide +kernel
theorem dX12_statement_97 : decode cX12_statement 97 = .ok (.aload_n 0, 1) := by decide +kernel
theorem dX12_statement_98 : decode cX12_statement 98 = .ok (.invokevirtual 439, 3) := by decide +kernel
theorem dX12_statement_101 : decode cX12_statement 101 = .ok (.goto 7, 3) := by decide +kernel
theorem dX12_statement_104 : decode cX12_statement 104 = .ok (.aload_n 0, 1) := by decide +kernel
theorem dX12_statement_105 : decode cX12_statement 105 = .ok (.invokevirtual 442, 3) := by decide +kernel
theorem dX12_statement_108 : decode cX12_statement 108 = .ok (.aload_n 0, 1) := by decide +kernel
theorem dX12_statement_109 : decode cX12_statement 109 = .ok (.getfield 36, 3) := by decide +kernel
theorem dX12_statement_112 : decode cX12_statement 112 = .ok (.ifCond .ne 9, 3) := by decide +kernel
theorem dX12_statement_115 : decode cX12_statement 115 = .ok (.aload_n 0, 1) := by decide +kernel
theorem dX12_statement_116 : decode cX12_statement 116 = .ok (.bipush 59, 2) := by decide +kernel
theorem dX12_statement_118 : decode cX12_statement 118 = .ok (.invokevirtual 445, 3) := by decide +kernel
theorem dX12_statement_121 : decode cX12_statement 121 = .ok (.return_, 1) := by decide +kernel
theorem dX12_others_0 : decode cX12_others 0 = .ok (.aload_n 0, 1) := by decide +kernel
theorem dX12_others_1 : decode cX12_others 1 = .ok (.ldc2_w 312, 3) := by decide +kernel
theorem dX12_others_4 : decode cX12_others 4 = .ok (.invokevirtual 368, 3) := by decide +kernel
theorem dX12_others_7 : decode cX12_others 7 = .ok (.ifCond .eq 10, 3) := by decide +kernel
theorem dX12_others_10 : decode cX12_others 10 = .ok (.aload_n 0, 1) := by decide +kernel
theorem dX12_others_11 : decode cX12_others 11 = .ok (.invokevirtual 447, 3) := by decide +kernel
theorem dX12_others_14 : decode cX12_others 14 = .ok (.goto 97, 3) := by decide +kernel
theorem dX12_others_17 : decode cX12_others 17 = .ok (.aload_n 0, 1) := by decide +kernel
theorem dX12_others_18 : decode cX12_others 18 = .ok (.ldc2_w 316, 3) := by decide +kernel
theorem dX12_others_21 : decode cX12_others 21 = .ok (.invokevirtual 368, 3) := by decide +kernel
theorem dX12_others_24 : decode cX12_others 24 = .ok (.ifCond .eq 10, 3) := by decide +kernel
theorem dX12_others_27 : decode cX12_others 27 = .ok (.aload_n 0, 1) := by decide +kernel
theorem dX12_others_28 : decode cX12_others 28 = .ok (.invokevirtual 450, 3) := by decide +kernel
theorem dX12_others_31 : decode cX12_others 31 = .ok (.goto 80, 3) := by decide +kernel
theorem dX12_others_34 : decode cX12_others 34 = .ok (.aload_n 0, 1) := by decide +kernel
theorem dX12_others_35 : decode cX12_others 35 = .ok (.ldc2_w 318, 3) := by decide +kernel
theorem dX12_others_38 : decode cX12_others 38 = .ok (.invokevirtual 368, 3) := by decide +kernel
theorem dX12_others_41 : decode cX12_others 41 = .ok (.ifCond .eq 10, 3) := by decide +kernel
theorem dX12_others_44 : decode cX12_others 44 = .ok (.aload_n 0, 1) := by decide +kernel
theorem dX12_others_45 : decode cX12_others 45 = .ok (.invokevirtual 453, 3) := by decide +kernel
theorem dX12_others_48 : decode cX12_others 48 = .ok (.goto 63, 3) := by decide +kernel
theorem dX12_others_51 : decode cX12_others 51 = .ok (.aload_n 0, 1) := by decide +kernel
theorem dX12_others_52 : decode cX12_others 52 = .ok (.ldc2_w 320, 3) := by decide +kernel
theorem dX12_others_55 : decode cX12_others 55 = .ok (.invokevirtual 368, 3) := by decide +kernel
theorem dX12_others_58 : decode cX12_others 58 = .ok (.ifCond .eq 10, 3) := by decide +kernel
theorem dX12_others_61 : decode cX12_others 61 = .ok (.aload_n 0, 1) := by decide +kernel
theorem dX12_others_62 : decode cX12_others 62 = .ok (.invokevirtual 456, 3) := by decide +kernel
theorem dX12_others_65 : decode cX12_others 65 = .ok (.goto 46, 3) := by decide +kernel
theorem dX12_others_68 : decode cX12_others 68 = .ok (.aload_n 0, 1) := by decide +kernel
theorem dX12_others_69 : decode cX12_others 69 = .ok (.ldc2_w 322, 3) := by decide +kernel
theorem dX12_others_72 : decode cX12_others 72 = .ok (.invokevirtual 368, 3) := by decide +kernel
theorem dX12_others_75 : decode cX12_others 75 = .ok (.ifCond .eq 10, 3) := by decide +kernel
theorem dX12_others_78 : decode cX12_others 78 = .ok (.aload_n 0, 1) := by decide +kernel
theorem dX12_others_79 : decode cX12_others 79 = .ok (.invokevirtual 459, 3) := by decide +kernel
theorem dX12_others_82 : decode cX12_others 82 = .ok (.goto 29, 3) := by decide +kernel
theorem dX12_others_85 : decode cX12_others 85 = .ok (.aload_n 0, 1) := by decide +kernel
theorem dX12_others_86 : decode cX12_others 86 = .ok (.ldc2_w 324, 3) := by decide +kernel
theorem dX12_others_89 : decode cX12_others 89 = .ok (.invokevirtual 368, 3) := by decide +kernel
theorem dX12_others_92 : decode cX12_others 92 = .ok (.ifCond .eq 10, 3) := by decide +kernel
theorem dX12_others_95 : decode cX12_others 95 = .ok (.aload_n 0, 1) := by decide +kernel
theorem dX12_others_96 : decode cX12_others 96 = .ok (.invokevirtual 462, 3) := by decide +kernel
theorem dX12_others_99 : decode cX12_others 99 = .ok (.goto 12, 3) := by decide +kernel
theorem dX12_others_102 : decode cX12_others 102 = .ok (.aload_n 0, 1) := by decide +kernel
theorem dX12_others_103 : decode cX12_others 103 = .ok (.iconst 1, 1) := by decide +kernel
theorem dX12_others_104 : decode cX12_others 104 = .ok (.aload_n 0, 1) := by decide +kernel
theorem dX12_others_105 : decode cX12_others 105 = .ok (.getfield 23, 3) := by decide +kernel
theorem dX12_others_108 : decode cX12_others 108 = .ok (.invokevirtual 286, 3) := by decide +kernel
theorem dX12_others_111 : decode cX12_others 111 = .ok (.return_, 1) := by decide +kernel
