theorem dX12_isInRow_0 : decode cX12_isInRow 0 = .ok (.iconst 0, 1) := by decide +kernel
theorem dX12_isInRow_1 : decode cX12_isInRow 1 = .ok (.istore_n 3, 1) := by decide +kernel
theorem dX12_isInRow_2 : decode cX12_isInRow 2 = .ok (.iload_n 3, 1) := by decide +kernel
theorem dX12_isInRow_3 : decode cX12_isInRow 3 = .ok (.aload_n 0, 1) := by decide +kernel
theorem dX12_isInRow_4 : decode cX12_isInRow 4 = .ok (.getfield 89, 3) := by decide +kernel
theorem dX12_isInRow_7 : decode cX12_isInRow 7 = .ok (.iload_n 1, 1) := by decide +kernel
theorem dX12_isInRow_8 : decode cX12_isInRow 8 = .ok (.iaload, 1) := by decide +kernel
theorem dX12_isInRow_9 : decode cX12_isInRow 9 = .ok (.if_icmp .ge 26, 3) := by decide +kernel
theorem dX12_isInRow_12 : decode cX12_isInRow 12 = .ok (.aload_n 0, 1) := by decide +kernel
theorem dX12_isInRow_13 : decode cX12_isInRow 13 = .ok (.getfield 92, 3) := by decide +kernel
theorem dX12_isInRow_16 : decode cX12_isInRow 16 = .ok (.bipush 10, 2) := by decide +kernel
theorem dX12_isInRow_18 : decode cX12_isInRow 18 = .ok (.iload_n 1, 1) := by decide +kernel
theorem dX12_isInRow_19 : decode cX12_isInRow 19 = .ok (.imul, 1) := by decide +kernel
theorem dX12_isInRow_20 : decode cX12_isInRow 20 = .ok (.iload_n 3, 1) := by decide +kernel
theorem dX12_isInRow_21 : decode cX12_isInRow 21 = .ok (.iadd, 1) := by decide +kernel
theorem dX12_isInRow_22 : decode cX12_isInRow 22 = .ok (.iaload, 1) := by decide +kernel
theorem dX12_isInRow_23 : decode cX12_isInRow 23 = .ok (.iload_n 2, 1) := by decide +kernel
theorem dX12_isInRow_24 : decode cX12_isInRow 24 = .ok (.if_icmp .ne 5, 3) := by decide +kernel
theorem dX12_isInRow_27 : decode cX12_isInRow 27 = .ok (.iconst 1, 1) := by decide +kernel
theorem dX12_isInRow_28 : decode cX12_isInRow 28 = .ok (.ireturn, 1) := by decide +kernel
theorem dX12_isInRow_29 : decode cX12_isInRow 29 = .ok (.iinc 3 1, 3) := by decide +kernel
theorem dX12_isInRow_32 : decode cX12_isInRow 32 = .ok (.goto (-30), 3) := by decide +kernel
theorem dX12_isInRow_35 : decode cX12_isInRow 35 = .ok (.iconst 0, 1) := by decide +kernel
theorem dX12_isInRow_36 : decode cX12_isInRow 36 = .ok (.ireturn, 1) := by decide +kernel
theorem dX12_inRow_0 : decode cX12_inRow 0 = .ok (.aload_n 0, 1) := by decide +kernel
theorem dX12_inRow_1 : decode cX12_inRow 1 = .ok (.aload_n 0, 1) := by decide +kernel
theorem dX12_inRow_2 : decode cX12_inRow 2 = .ok (.iload_n 1, 1) := by decide +kernel
theorem dX12_inRow_3 : decode cX12_inRow 3 = .ok (.invokevirtual 484, 3) := by decide +kernel
theorem dX12_inRow_6 : decode cX12_inRow 6 = .ok (.iload_n 2, 1) := by decide +kernel
theorem dX12_inRow_7 : decode cX12_inRow 7 = .ok (.invokevirtual 419, 3) := by decide +kernel
theorem dX12_inRow_10 : decode cX12_inRow 10 = .ok (.ireturn, 1) := by decide +kernel
theorem dX12_topOf_0 : decode cX12_topOf 0 = .ok (.aload_n 0, 1) := by decide +kernel
theorem dX12_topOf_1 : decode cX12_topOf 1 = .ok (.getfield 89, 3) := by decide +kernel
theorem dX12_topOf_4 : decode cX12_topOf 4 = .ok (.aload_n 0, 1) := by decide +kernel
theorem dX12_topOf_5 : decode cX12_topOf 5 = .ok (.iload_n 1, 1) := by decide +kernel
theorem dX12_topOf_6 : decode cX12_topOf 6 = .ok (.invokevirtual 484, 3) := by decide +kernel
theorem dX12_topOf_9 : decode cX12_topOf 9 = .ok (.iaload, 1) := by decide +kernel
theorem dX12_topOf_10 : decode cX12_topOf 10 = .ok (.ifCond .ne 7, 3) := by decide +kernel
theorem dX12_topOf_13 : decode cX12_topOf 13 = .ok (.iconst (-1), 1) := by decide +kernel
theorem dX12_topOf_14 : decode cX12_topOf 14 = .ok (.goto 29, 3) := by decide +kernel
theorem dX12_topOf_17 : decode cX12_topOf 17 = .ok (.aload_n 0, 1) := by decide +kernel
theorem dX12_topOf_18 : decode cX12_topOf 18 = .ok (.getfield 92, 3) := by decide +kernel
theorem dX12_topOf_21 : decode cX12_topOf 21 = .ok (.bipush 10, 2) := by decide +kernel
theorem dX12_topOf_23 : decode cX12_topOf 23 = .ok (.aload_n 0, 1) := by decide +kernel
theorem dX12_topOf_24 : decode cX12_topOf 24 = .ok (.iload_n 1, 1) := by decide +kernel
theorem dX12_topOf_25 : decode cX12_topOf 25 = .ok (.invokevirtual 484, 3) := by decide +kernel
theorem dX12_topOf_28 : decode cX12_topOf 28 = .ok (.imul, 1) := by decide +kernel
theorem dX12_topOf_29 : decode cX12_topOf 29 = .ok (.aload_n 0, 1) := by decide +kernel
theorem dX12_topOf_30 : decode cX12_topOf 30 = .ok (.getfield 89, 3) := by decide +kernel
theorem dX12_topOf_33 : decode cX12_topOf 33 = .ok (.aload_n 0, 1) := by decide +kernel
theorem dX12_topOf_34 : decode cX12_topOf 34 = .ok (.iload_n 1, 1) := by decide +kernel
theorem dX12_topOf_35 : decode cX12_topOf 35 = .ok (.invokevirtual 484, 3) := by decide +kernel
theorem dX12_topOf_38 : decode cX12_topOf 38 = .ok (.iaload, 1) := by decide +kernel
theorem dX12_topOf_39 : decode cX12_topOf 39 = .ok (.iadd, 1) := by decide +kernel
theorem dX12_topOf_40 : decode cX12_topOf 40 = .ok (.iconst 1, 1) := by decide +kernel
theorem dX12_topOf_41 : decode cX12_topOf 41 = .ok (.isub, 1) := by decide +kernel
theorem dX12_topOf_42 : decode cX12_topOf 42 = .ok (.iaload, 1) := by decide +kernel
theorem dX12_topOf_43 : decode cX12_topOf 43 = .ok (.ireturn, 1) := by decide +kernel
theorem dX12_isShut_0 : decode cX12_isShut 0 = .ok (.aload_n 0, 1) := by decide +kernel
theorem dX12_isShut_1 : decode cX12_isShut 1 = .ok (.getfield 77, 3) := by decide +kernel
theorem dX12_isShut_4 : decode cX12_isShut 4 = .ok (.aload_n 0, 1) := by decide +kernel
theorem dX12_isShut_5 : decode cX12_isShut 5 = .ok (.iload_n 1, 1) := by decide +kernel
theorem dX12_isShut_6 : decode cX12_isShut 6 = .ok (.invokevirtual 487, 3) := by decide +kernel
theorem dX12_isShut_9 : decode cX12_isShut 9 = .ok (.baload, 1) := by decide +kernel
theorem dX12_isShut_10 : decode cX12_isShut 10 = .ok (.ifCond .eq 5, 3) := by decide +kernel
theorem dX12_isShut_13 : decode cX12_isShut 13 = .ok (.iconst 1, 1) := by decide +kernel
theorem dX12_isShut_14 : decode cX12_isShut 14 = .ok (.ireturn, 1) := by decide +kernel
theorem dX12_isShut_15 : decode cX12_isShut 15 = .ok (.iconst 0, 1) := by decide +kernel
theorem dX12_isShut_16 : decode cX12_isShut 16 = .ok (.istore_n 2, 1) := by decide +kernel
theorem dX12_isShut_17 : decode cX12_isShut 17 = .ok (.iload_n 2, 1) := by decide +kernel
theorem dX12_isShut_18 : decode cX12_isShut 18 = .ok (.aload_n 0, 1) := by decide +kernel
theorem dX12_isShut_19 : decode cX12_isShut 19 = .ok (.getfield 80, 3) := by decide +kernel
theorem dX12_isShut_22 : decode cX12_isShut 22 = .ok (.aload_n 0, 1) := by decide +kernel
theorem dX12_isShut_23 : decode cX12_isShut 23 = .ok (.getfield 48, 3) := by decide +kernel
theorem dX12_isShut_26 : decode cX12_isShut 26 = .ok (.iaload, 1) := by decide +kernel
theorem dX12_isShut_27 : decode cX12_isShut 27 = .ok (.if_icmp .ge 20, 3) := by decide +kernel
theorem dX12_isShut_30 : decode cX12_isShut 30 = .ok (.aload_n 0, 1) := by decide +kernel
theorem dX12_isShut_31 : decode cX12_isShut 31 = .ok (.iload_n 2, 1) := by decide +kernel
theorem dX12_isShut_32 : decode cX12_isShut 32 = .ok (.iload_n 1, 1) := by decide +kernel
theorem dX12_isShut_33 : decode cX12_isShut 33 = .ok (.invokevirtual 490, 3) := by decide +kernel
theorem dX12_isShut_36 : decode cX12_isShut 36 = .ok (.ifCond .eq 5, 3) := by decide +kernel
theorem dX12_isShut_39 : decode cX12_isShut 39 = .ok (.iconst 1, 1) := by decide +kernel
theorem dX12_isShut_40 : decode cX12_isShut 40 = .ok (.ireturn, 1) := by decide +kernel
theorem dX12_isShut_41 : decode cX12_isShut 41 = .ok (.iinc 2 1, 3) := by decide +kernel
theorem dX12_isShut_44 : decode cX12_isShut 44 = .ok (.goto (-27), 3) := by decide +kernel
theorem dX12_isShut_47 : decode cX12_isShut 47 = .ok (.iconst 0, 1) := by decide +kernel
theorem dX12_isShut_48 : decode cX12_isShut 48 = .ok (.ireturn, 1) := by decide +kernel
theorem dX12_isDead_0 : decode cX12_isDead 0 = .ok (.aload_n 0, 1) := by decide +kernel
theorem dX12_isDead_1 : decode cX12_isDead 1 = .ok (.getfield 77, 3) := by decide +kernel
theorem dX12_isDead_4 : decode cX12_isDead 4 = .ok (.aload_n 0, 1) := by decide +kernel
theorem dX12_isDead_5 : decode cX12_isDead 5 = .ok (.iload_n 1, 1) := by decide +kernel
theorem dX12_isDead_6 : decode cX12_isDead 6 = .ok (.invokevirtual 487, 3) := by decide +kernel
theorem dX12_isDead_9 : decode cX12_isDead 9 = .ok (.baload, 1) := by decide +kernel
theorem dX12_isDead_10 : decode cX12_isDead 10 = .ok (.ifCond .eq 5, 3) := by decide +kernel
theorem dX12_isDead_13 : decode cX12_isDead 13 = .ok (.iconst 1, 1) := by decide +kernel
theorem dX12_isDead_14 : decode cX12_isDead 14 = .ok (.ireturn, 1) := by decide +kernel
theorem dX12_isDead_15 : decode cX12_isDead 15 = .ok (.iconst 0, 1) := by decide +kernel
theorem dX12_isDead_16 : decode cX12_isDead 16 = .ok (.istore_n 2, 1) := by decide +kernel
theorem dX12_isDead_17 : decode cX12_isDead 17 = .ok (.iload_n 2, 1) := by decide +kernel
theorem dX12_isDead_18 : decode cX12_isDead 18 = .ok (.aload_n 0, 1) := by decide +kernel
theorem dX12_isDead_19 : decode cX12_isDead 19 = .ok (.getfield 80, 3) := by decide +kernel
theorem dX12_isDead_22 : decode cX12_isDead 22 = .ok (.aload_n 0, 1) := by decide +kernel
theorem dX12_isDead_23 : decode cX12_isDead 23 = .ok (.getfield 48, 3) := by decide +kernel
theorem dX12_isDead_26 : decode cX12_isDead 26 = .ok (.iaload, 1) := by decide +kernel
theorem dX12_isDead_27 : decode cX12_isDead 27 = .ok (.if_icmp .ge 35, 3) := by decide +kernel
theorem dX12_isDead_30 : decode cX12_isDead 30 = .ok (.aload_n 0, 1) := by decide +kernel
theorem dX12_isDead_31 : decode cX12_isDead 31 = .ok (.getfield 86, 3) := by decide +kernel
theorem dX12_isDead_34 : decode cX12_isDead 34 = .ok (.aload_n 0, 1) := by decide +kernel
theorem dX12_isDead_35 : decode cX12_isDead 35 = .ok (.iload_n 2, 1) := by decide +kernel
theorem dX12_isDead_36 : decode cX12_isDead 36 = .ok (.invokevirtual 484, 3) := by decide +kernel
theorem dX12_isDead_39 : decode cX12_isDead 39 = .ok (.iaload, 1) := by decide +kernel
theorem dX12_isDead_40 : decode cX12_isDead 40 = .ok (.bipush 40, 2) := by decide +kernel
theorem dX12_isDead_42 : decode cX12_isDead 42 = .ok (.if_icmp .ne 14, 3) := by decide +kernel
theorem dX12_isDead_45 : decode cX12_isDead 45 = .ok (.aload_n 0, 1) := by decide +kernel
theorem dX12_isDead_46 : decode cX12_isDead 46 = .ok (.iload_n 2, 1) := by decide +kernel
theorem dX12_isDead_47 : decode cX12_isDead 47 = .ok (.iload_n 1, 1) := by decide +kernel
theorem dX12_isDead_48 : decode cX12_isDead 48 = .ok (.invokevirtual 490, 3) := by decide +kernel
theorem dX12_isDead_51 : decode cX12_isDead 51 = .ok (.ifCond .eq 5, 3) := by decide +kernel
theorem dX12_isDead_54 : decode cX12_isDead 54 = .ok (.iconst 1, 1) := by decide +kernel
theorem dX12_isDead_55 : decode cX12_isDead 55 = .ok (.ireturn, 1) := by decide +kernel
theorem dX12_isDead_56 : decode cX12_isDead 56 = .ok (.iinc 2 1, 3) := by decide +kernel
theorem dX12_isDead_59 : decode cX12_isDead 59 = .ok (.goto (-42), 3) := by decide +kernel
theorem dX12_isDead_62 : decode cX12_isDead 62 = .ok (.iconst 0, 1) := by decide +kernel
theorem dX12_isDead_63 : decode cX12_isDead 63 = .ok (.ireturn, 1) := by decide +kernel
theorem dX12_closedAll_0 : decode cX12_closedAll 0 = .ok (.iconst 0, 1) := by decide +kernel
theorem dX12_closedAll_1 : decode cX12_closedAll 1 = .ok (.istore_n 1, 1) := by decide +kernel
theorem dX12_closedAll_2 : decode cX12_closedAll 2 = .ok (.iconst 0, 1) := by decide +kernel
theorem dX12_closedAll_3 : decode cX12_closedAll 3 = .ok (.istore_n 2, 1) := by decide +kernel
theorem dX12_closedAll_4 : decode cX12_closedAll 4 = .ok (.iload_n 2, 1) := by decide +kernel
theorem dX12_closedAll_5 : decode cX12_closedAll 5 = .ok (.aload_n 0, 1) := by decide +kernel
theorem dX12_closedAll_6 : decode cX12_closedAll 6 = .ok (.getfield 58, 3) := by decide +kernel
theorem dX12_closedAll_9 : decode cX12_closedAll 9 = .ok (.aload_n 0, 1) := by decide +kernel
theorem dX12_closedAll_10 : decode cX12_closedAll 10 = .ok (.getfield 48, 3) := by decide +kernel
theorem dX12_closedAll_13 : decode cX12_closedAll 13 = .ok (.iaload, 1) := by decide +kernel
theorem dX12_closedAll_14 : decode cX12_closedAll 14 = .ok (.if_icmp .ge 25, 3) := by decide +kernel
theorem dX12_closedAll_17 : decode cX12_closedAll 17 = .ok (.iload_n 1, 1) := by decide +kernel
theorem dX12_closedAll_18 : decode cX12_closedAll 18 = .ok (.aload_n 0, 1) := by decide +kernel
theorem dX12_closedAll_19 : decode cX12_closedAll 19 = .ok (.iload_n 2, 1) := by decide +kernel
theorem dX12_closedAll_20 : decode cX12_closedAll 20 = .ok (.invokevirtual 493, 3) := by decide +kernel
theorem dX12_closedAll_23 : decode cX12_closedAll 23 = .ok (.ifCond .eq 7, 3) := by decide +kernel
theorem dX12_closedAll_26 : decode cX12_closedAll 26 = .ok (.iconst 1, 1) := by decide +kernel
theorem dX12_closedAll_27 : decode cX12_closedAll 27 = .ok (.goto 4, 3) := by decide +kernel
theorem dX12_closedAll_30 : decode cX12_closedAll 30 = .ok (.iconst 0, 1) := by decide +kernel
theorem dX12_closedAll_31 : decode cX12_closedAll 31 = .ok (.iadd, 1) := by decide +kernel
theorem dX12_closedAll_32 : decode cX12_closedAll 32 = .ok (.istore_n 1, 1) := by decide +kernel
theorem dX12_closedAll_33 : decode cX12_closedAll 33 = .ok (.iinc 2 1, 3) := by decide +kernel
theorem dX12_closedAll_36 : decode cX12_closedAll 36 = .ok (.goto (-32), 3) := by decide +kernel
theorem dX12_closedAll_39 : decode cX12_closedAll 39 = .ok (.iload_n 1, 1) := by decide +kernel
theorem dX12_closedAll_40 : decode cX12_closedAll 40 = .ok (.ireturn, 1) := by decide +kernel
theorem dX12_has_0 : decode cX12_has 0 = .ok (.iconst 0, 1) := by decide +kernel
theorem dX12_has_1 : decode cX12_has 1 = .ok (.istore_n 2, 1) := by decide +kernel
theorem dX12_has_2 : decode cX12_has 2 = .ok (.iload_n 1, 1) := by decide +kernel
theorem dX12_has_3 : decode cX12_has 3 = .ok (.tableswitch 177 0 9 #[53, 63, 73, 83, 93, 103, 113, 123, 133, 138], 53) := by decide +kernel
theorem dX12_has_56 : decode cX12_has 56 = .ok (.aload_n 0, 1) := by decide +kernel
theorem dX12_has_57 : decode cX12_has 57 = .ok (.getfield 51, 3) := by decide +kernel
theorem dX12_has_60 : decode cX12_has 60 = .ok (.aload_n 0, 1) := by decide +kernel
theorem dX12_has_61 : decode cX12_has 61 = .ok (.getfield 48, 3) := by decide +kernel
theorem dX12_has_64 : decode cX12_has 64 = .ok (.iaload, 1) := by decide +kernel
theorem dX12_has_65 : decode cX12_has 65 = .ok (.ireturn, 1) := by decide +kernel
theorem dX12_has_66 : decode cX12_has 66 = .ok (.aload_n 0, 1) := by decide +kernel
theorem dX12_has_67 : decode cX12_has 67 = .ok (.getfield 58, 3) := by decide +kernel
theorem dX12_has_70 : decode cX12_has 70 = .ok (.aload_n 0, 1) := by decide +kernel
theorem dX12_has_71 : decode cX12_has 71 = .ok (.getfield 48, 3) := by decide +kernel
theorem dX12_has_74 : decode cX12_has 74 = .ok (.iaload, 1) := by decide +kernel
theorem dX12_has_75 : decode cX12_has 75 = .ok (.ireturn, 1) := by decide +kernel
theorem dX12_has_76 : decode cX12_has 76 = .ok (.aload_n 0, 1) := by decide +kernel
theorem dX12_has_77 : decode cX12_has 77 = .ok (.getfield 80, 3) := by decide +kernel
theorem dX12_has_80 : decode cX12_has 80 = .ok (.aload_n 0, 1) := by decide +kernel
theorem dX12_has_81 : decode cX12_has 81 = .ok (.getfield 48, 3) := by decide +kernel
theorem dX12_has_84 : decode cX12_has 84 = .ok (.iaload, 1) := by decide +kernel
theorem dX12_has_85 : decode cX12_has 85 = .ok (.ireturn, 1) := by decide +kernel
theorem dX12_has_86 : decode cX12_has 86 = .ok (.aload_n 0, 1) := by decide +kernel
theorem dX12_has_87 : decode cX12_has 87 = .ok (.getfield 95, 3) := by decide +kernel
theorem dX12_has_90 : decode cX12_has 90 = .ok (.aload_n 0, 1) := by decide +kernel
theorem dX12_has_91 : decode cX12_has 91 = .ok (.getfield 48, 3) := by decide +kernel
theorem dX12_has_94 : decode cX12_has 94 = .ok (.iaload, 1) := by decide +kernel
theorem dX12_has_95 : decode cX12_has 95 = .ok (.ireturn, 1) := by decide +kernel
theorem dX12_has_96 : decode cX12_has 96 = .ok (.aload_n 0, 1) := by decide +kernel
theorem dX12_has_97 : decode cX12_has 97 = .ok (.getfield 104, 3) := by decide +kernel
theorem dX12_has_100 : decode cX12_has 100 = .ok (.aload_n 0, 1) := by decide +kernel
theorem dX12_has_101 : decode cX12_has 101 = .ok (.getfield 48, 3) := by decide +kernel
theorem dX12_has_104 : decode cX12_has 104 = .ok (.iaload, 1) := by decide +kernel
theorem dX12_has_105 : decode cX12_has 105 = .ok (.ireturn, 1) := by decide +kernel
theorem dX12_has_106 : decode cX12_has 106 = .ok (.aload_n 0, 1) := by decide +kernel
theorem dX12_has_107 : decode cX12_has 107 = .ok (.getfield 113, 3) := by decide +kernel
theorem dX12_has_110 : decode cX12_has 110 = .ok (.aload_n 0, 1) := by decide +kernel
theorem dX12_has_111 : decode cX12_has 111 = .ok (.getfield 48, 3) := by decide +kernel
theorem dX12_has_114 : decode cX12_has 114 = .ok (.iaload, 1) := by decide +kernel
theorem dX12_has_115 : decode cX12_has 115 = .ok (.ireturn, 1) := by decide +kernel
theorem dX12_has_116 : decode cX12_has 116 = .ok (.aload_n 0, 1) := by decide +kernel
theorem dX12_has_117 : decode cX12_has 117 = .ok (.getfield 122, 3) := by decide +kernel
theorem dX12_has_120 : decode cX12_has 120 = .ok (.aload_n 0, 1) := by decide +kernel
theorem dX12_has_121 : decode cX12_has 121 = .ok (.getfield 48, 3) := by decide +kernel
theorem dX12_has_124 : decode cX12_has 124 = .ok (.iaload, 1) := by decide +kernel
theorem dX12_has_125 : decode cX12_has 125 = .ok (.ireturn, 1) := by decide +kernel
theorem dX12_has_126 : decode cX12_has 126 = .ok (.aload_n 0, 1) := by decide +kernel
theorem dX12_has_127 : decode cX12_has 127 = .ok (.getfield 134, 3) := by decide +kernel
theorem dX12_has_130 : decode cX12_has 130 = .ok (.aload_n 0, 1) := by decide +kernel
theorem dX12_has_131 : decode cX12_has 131 = .ok (.getfield 48, 3) := by decide +kernel
theorem dX12_has_134 : decode cX12_has 134 = .ok (.iaload, 1) := by decide +kernel
theorem dX12_has_135 : decode cX12_has 135 = .ok (.ireturn, 1) := by decide +kernel
theorem dX12_has_136 : decode cX12_has 136 = .ok (.aload_n 0, 1) := by decide +kernel
theorem dX12_has_137 : decode cX12_has 137 = .ok (.invokevirtual 496, 3) := by decide +kernel
theorem dX12_has_140 : decode cX12_has 140 = .ok (.ireturn, 1) := by decide +kernel
theorem dX12_has_141 : decode cX12_has 141 = .ok (.iconst 0, 1) := by decide +kernel
theorem dX12_has_142 : decode cX12_has 142 = .ok (.istore_n 3, 1) := by decide +kernel
theorem dX12_has_143 : decode cX12_has 143 = .ok (.iload_n 3, 1) := by decide +kernel
theorem dX12_has_144 : decode cX12_has 144 = .ok (.aload_n 0, 1) := by decide +kernel
theorem dX12_has_145 : decode cX12_has 145 = .ok (.getfield 58, 3) := by decide +kernel
theorem dX12_has_148 : decode cX12_has 148 = .ok (.aload_n 0, 1) := by decide +kernel
theorem dX12_has_149 : decode cX12_has 149 = .ok (.getfield 48, 3) := by decide +kernel
theorem dX12_has_152 : decode cX12_has 152 = .ok (.iaload, 1) := by decide +kernel
theorem dX12_has_153 : decode cX12_has 153 = .ok (.if_icmp .ge 25, 3) := by decide +kernel
theorem dX12_has_156 : decode cX12_has 156 = .ok (.iload_n 2, 1) := by decide +kernel
theorem dX12_has_157 : decode cX12_has 157 = .ok (.aload_n 0, 1) := by decide +kernel
theorem dX12_has_158 : decode cX12_has 158 = .ok (.iload_n 3, 1) := by decide +kernel
theorem dX12_has_159 : decode cX12_has 159 = .ok (.invokevirtual 499, 3) := by decide +kernel
theorem dX12_has_162 : decode cX12_has 162 = .ok (.ifCond .eq 7, 3) := by decide +kernel
theorem dX12_has_165 : decode cX12_has 165 = .ok (.iconst 1, 1) := by decide +kernel
theorem dX12_has_166 : decode cX12_has 166 = .ok (.goto 4, 3) := by decide +kernel
theorem dX12_has_169 : decode cX12_has 169 = .ok (.iconst 0, 1) := by decide +kernel
theorem dX12_has_170 : decode cX12_has 170 = .ok (.iadd, 1) := by decide +kernel
theorem dX12_has_171 : decode cX12_has 171 = .ok (.istore_n 2, 1) := by decide +kernel
theorem dX12_has_172 : decode cX12_has 172 = .ok (.iinc 3 1, 3) := by decide +kernel
theorem dX12_has_175 : decode cX12_has 175 = .ok (.goto (-32), 3) := by decide +kernel
theorem dX12_has_178 : decode cX12_has 178 = .ok (.iload_n 2, 1) := by decide +kernel
theorem dX12_has_179 : decode cX12_has 179 = .ok (.ireturn, 1) := by decide +kernel
theorem dX12_has_180 : decode cX12_has 180 = .ok (.iconst (-1), 1) := by decide +kernel
theorem dX12_has_181 : decode cX12_has 181 = .ok (.ireturn, 1) := by decide +kernel
theorem dX12_manyOf_0 : decode cX12_manyOf 0 = .ok (.iload_n 1, 1) := by decide +kernel
theorem dX12_manyOf_1 : decode cX12_manyOf 1 = .ok (.ifCond .ne 15, 3) := by decide +kernel
theorem dX12_manyOf_4 : decode cX12_manyOf 4 = .ok (.aload_n 0, 1) := by decide +kernel
theorem dX12_manyOf_5 : decode cX12_manyOf 5 = .ok (.getfield 51, 3) := by decide +kernel
theorem dX12_manyOf_8 : decode cX12_manyOf 8 = .ok (.aload_n 0, 1) := by decide +kernel
theorem dX12_manyOf_9 : decode cX12_manyOf 9 = .ok (.getfield 48, 3) := by decide +kernel
theorem dX12_manyOf_12 : decode cX12_manyOf 12 = .ok (.iaload, 1) := by decide +kernel
theorem dX12_manyOf_13 : decode cX12_manyOf 13 = .ok (.goto 63, 3) := by decide +kernel
theorem dX12_manyOf_16 : decode cX12_manyOf 16 = .ok (.iload_n 1, 1) := by decide +kernel
theorem dX12_manyOf_17 : decode cX12_manyOf 17 = .ok (.iconst 1, 1) := by decide +kernel
theorem dX12_manyOf_18 : decode cX12_manyOf 18 = .ok (.if_icmp .ne 15, 3) := by decide +kernel
theorem dX12_manyOf_21 : decode cX12_manyOf 21 = .ok (.aload_n 0, 1) := by decide +kernel
theorem dX12_manyOf_22 : decode cX12_manyOf 22 = .ok (.getfield 58, 3) := by decide +kernel
theorem dX12_manyOf_25 : decode cX12_manyOf 25 = .ok (.aload_n 0, 1) := by decide +kernel
theorem dX12_manyOf_26 : decode cX12_manyOf 26 = .ok (.getfield 48, 3) := by decide +kernel
theorem dX12_manyOf_29 : decode cX12_manyOf 29 = .ok (.iaload, 1) := by decide +kernel
theorem dX12_manyOf_30 : decode cX12_manyOf 30 = .ok (.goto 46, 3) := by decide +kernel
theorem dX12_manyOf_33 : decode cX12_manyOf 33 = .ok (.iload_n 1, 1) := by decide +kernel
theorem dX12_manyOf_34 : decode cX12_manyOf 34 = .ok (.iconst 2, 1) := by decide +kernel
theorem dX12_manyOf_35 : decode cX12_manyOf 35 = .ok (.if_icmp .ne 15, 3) := by decide +kernel
theorem dX12_manyOf_38 : decode cX12_manyOf 38 = .ok (.aload_n 0, 1) := by decide +kernel
theorem dX12_manyOf_39 : decode cX12_manyOf 39 = .ok (.getfield 80, 3) := by decide +kernel
theorem dX12_manyOf_42 : decode cX12_manyOf 42 = .ok (.aload_n 0, 1) := by decide +kernel
theorem dX12_manyOf_43 : decode cX12_manyOf 43 = .ok (.getfield 48, 3) := by decide +kernel
theorem dX12_manyOf_46 : decode cX12_manyOf 46 = .ok (.iaload, 1) := by decide +kernel
theorem dX12_manyOf_47 : decode cX12_manyOf 47 = .ok (.goto 29, 3) := by decide +kernel
theorem dX12_manyOf_50 : decode cX12_manyOf 50 = .ok (.iload_n 1, 1) := by decide +kernel
theorem dX12_manyOf_51 : decode cX12_manyOf 51 = .ok (.iconst 3, 1) := by decide +kernel
theorem dX12_manyOf_52 : decode cX12_manyOf 52 = .ok (.if_icmp .ne 15, 3) := by decide +kernel
theorem dX12_manyOf_55 : decode cX12_manyOf 55 = .ok (.aload_n 0, 1) := by decide +kernel
theorem dX12_manyOf_56 : decode cX12_manyOf 56 = .ok (.getfield 95, 3) := by decide +kernel
theorem dX12_manyOf_59 : decode cX12_manyOf 59 = .ok (.aload_n 0, 1) := by decide +kernel
theorem dX12_manyOf_60 : decode cX12_manyOf 60 = .ok (.getfield 48, 3) := by decide +kernel
theorem dX12_manyOf_63 : decode cX12_manyOf 63 = .ok (.iaload, 1) := by decide +kernel
theorem dX12_manyOf_64 : decode cX12_manyOf 64 = .ok (.goto 12, 3) := by decide +kernel
theorem dX12_manyOf_67 : decode cX12_manyOf 67 = .ok (.aload_n 0, 1) := by decide +kernel
theorem dX12_manyOf_68 : decode cX12_manyOf 68 = .ok (.getfield 104, 3) := by decide +kernel
theorem dX12_manyOf_71 : decode cX12_manyOf 71 = .ok (.aload_n 0, 1) := by decide +kernel
theorem dX12_manyOf_72 : decode cX12_manyOf 72 = .ok (.getfield 48, 3) := by decide +kernel
theorem dX12_manyOf_75 : decode cX12_manyOf 75 = .ok (.iaload, 1) := by decide +kernel
theorem dX12_manyOf_76 : decode cX12_manyOf 76 = .ok (.ireturn, 1) := by decide +kernel
theorem dX12_letter_0 : decode cX12_letter 0 = .ok (.iload_n 1, 1) := by decide +kernel
theorem dX12_letter_1 : decode cX12_letter 1 = .ok (.iconst 0, 1) := by decide +kernel
theorem dX12_letter_2 : decode cX12_letter 2 = .ok (.iconst 4, 1) := by decide +kernel
theorem dX12_letter_3 : decode cX12_letter 3 = .ok (.invokestatic 352, 3) := by decide +kernel
theorem dX12_letter_6 : decode cX12_letter 6 = .ok (.ifCond .eq 18, 3) := by decide +kernel
theorem dX12_letter_9 : decode cX12_letter 9 = .ok (.iload_n 2, 1) := by decide +kernel
theorem dX12_letter_10 : decode cX12_letter 10 = .ok (.iconst 0, 1) := by decide +kernel
theorem dX12_letter_11 : decode cX12_letter 11 = .ok (.aload_n 0, 1) := by decide +kernel
theorem dX12_letter_12 : decode cX12_letter 12 = .ok (.iload_n 1, 1) := by decide +kernel
theorem dX12_letter_13 : decode cX12_letter 13 = .ok (.invokevirtual 502, 3) := by decide +kernel
theorem dX12_letter_16 : decode cX12_letter 16 = .ok (.iconst 1, 1) := by decide +kernel
theorem dX12_letter_17 : decode cX12_letter 17 = .ok (.isub, 1) := by decide +kernel
theorem dX12_letter_18 : decode cX12_letter 18 = .ok (.invokestatic 352, 3) := by decide +kernel
theorem dX12_letter_21 : decode cX12_letter 21 = .ok (.ifCond .ne 5, 3) := by decide +kernel
theorem dX12_letter_24 : decode cX12_letter 24 = .ok (.iconst (-1), 1) := by decide +kernel
theorem dX12_letter_25 : decode cX12_letter 25 = .ok (.ireturn, 1) := by decide +kernel
theorem dX12_letter_26 : decode cX12_letter 26 = .ok (.aload_n 0, 1) := by decide +kernel
theorem dX12_letter_27 : decode cX12_letter 27 = .ok (.aload_n 0, 1) := by decide +kernel
theorem dX12_letter_28 : decode cX12_letter 28 = .ok (.getfield 48, 3) := by decide +kernel
theorem dX12_letter_31 : decode cX12_letter 31 = .ok (.iload_n 1, 1) := by decide +kernel
theorem dX12_letter_32 : decode cX12_letter 32 = .ok (.iload_n 2, 1) := by decide +kernel
theorem dX12_letter_33 : decode cX12_letter 33 = .ok (.invokevirtual 348, 3) := by decide +kernel
theorem dX12_letter_36 : decode cX12_letter 36 = .ok (.lstore 4, 2) := by decide +kernel
theorem dX12_letter_38 : decode cX12_letter 38 = .ok (.iconst 0, 1) := by decide +kernel
theorem dX12_letter_39 : decode cX12_letter 39 = .ok (.istore 6, 2) := by decide +kernel
theorem dX12_letter_41 : decode cX12_letter 41 = .ok (.lload 4, 2) := by decide +kernel
theorem dX12_letter_43 : decode cX12_letter 43 = .ok (.lstore 7, 2) := by decide +kernel
theorem dX12_letter_45 : decode cX12_letter 45 = .ok (.lload 7, 2) := by decide +kernel
theorem dX12_letter_47 : decode cX12_letter 47 = .ok (.lconst 0, 1) := by decide +kernel
theorem dX12_letter_48 : decode cX12_letter 48 = .ok (.lcmp, 1) := by decide +kernel
theorem dX12_letter_49 : decode cX12_letter 49 = .ok (.ifCond .eq 16, 3) := by decide +kernel
theorem dX12_letter_52 : decode cX12_letter 52 = .ok (.iinc 6 1, 3) := by decide +kernel
theorem dX12_letter_55 : decode cX12_letter 55 = .ok (.lload 7, 2) := by decide +kernel
theorem dX12_letter_57 : decode cX12_letter 57 = .ok (.bipush 8, 2) := by decide +kernel
theorem dX12_letter_59 : decode cX12_letter 59 = .ok (.lushr, 1) := by decide +kernel
theorem dX12_letter_60 : decode cX12_letter 60 = .ok (.lstore 7, 2) := by decide +kernel
theorem dX12_letter_62 : decode cX12_letter 62 = .ok (.goto (-17), 3) := by decide +kernel
theorem dX12_letter_65 : decode cX12_letter 65 = .ok (.iload_n 3, 1) := by decide +kernel
theorem dX12_letter_66 : decode cX12_letter 66 = .ok (.ifCond .lt 9, 3) := by decide +kernel
theorem dX12_letter_69 : decode cX12_letter 69 = .ok (.iload_n 3, 1) := by decide +kernel
theorem dX12_letter_70 : decode cX12_letter 70 = .ok (.iload 6, 2) := by decide +kernel
theorem dX12_letter_72 : decode cX12_letter 72 = .ok (.if_icmp .lt 7, 3) := by decide +kernel
theorem dX12_letter_75 : decode cX12_letter 75 = .ok (.iconst (-1), 1) := by decide +kernel
theorem dX12_letter_76 : decode cX12_letter 76 = .ok (.goto 20, 3) := by decide +kernel
theorem dX12_letter_79 : decode cX12_letter 79 = .ok (.lload 4, 2) := by decide +kernel
theorem dX12_letter_81 : decode cX12_letter 81 = .ok (.bipush 8, 2) := by decide +kernel
theorem dX12_letter_83 : decode cX12_letter 83 = .ok (.iload 6, 2) := by decide +kernel
theorem dX12_letter_85 : decode cX12_letter 85 = .ok (.iconst 1, 1) := by decide +kernel
theorem dX12_letter_86 : decode cX12_letter 86 = .ok (.isub, 1) := by decide +kernel
theorem dX12_letter_87 : decode cX12_letter 87 = .ok (.iload_n 3, 1) := by decide +kernel
theorem dX12_letter_88 : decode cX12_letter 88 = .ok (.isub, 1) := by decide +kernel
theorem dX12_letter_89 : decode cX12_letter 89 = .ok (.imul, 1) := by decide +kernel
theorem dX12_letter_90 : decode cX12_letter 90 = .ok (.lushr, 1) := by decide +kernel
theorem dX12_letter_91 : decode cX12_letter 91 = .ok (.ldc2_w 505, 3) := by decide +kernel
theorem dX12_letter_94 : decode cX12_letter 94 = .ok (.land, 1) := by decide +kernel
theorem dX12_letter_95 : decode cX12_letter 95 = .ok (.l2i, 1) := by decide +kernel
theorem dX12_letter_96 : decode cX12_letter 96 = .ok (.ireturn, 1) := by decide +kernel
theorem dX12_door__0 : decode cX12_door_ 0 = .ok (.aload_n 0, 1) := by decide +kernel
theorem dX12_door__1 : decode cX12_door_ 1 = .ok (.iload_n 1, 1) := by decide +kernel
theorem dX12_door__2 : decode cX12_door_ 2 = .ok (.invokevirtual 507, 3) := by decide +kernel
theorem dX12_door__5 : decode cX12_door_ 5 = .ok (.ifCond .ne 5, 3) := by decide +kernel
theorem dX12_door__8 : decode cX12_door_ 8 = .ok (.iconst (-1), 1) := by decide +kernel
theorem dX12_door__9 : decode cX12_door_ 9 = .ok (.ireturn, 1) := by decide +kernel
theorem dX12_door__10 : decode cX12_door_ 10 = .ok (.iconst 0, 1) := by decide +kernel
theorem dX12_door__11 : decode cX12_door_ 11 = .ok (.istore_n 3, 1) := by decide +kernel
theorem dX12_door__12 : decode cX12_door_ 12 = .ok (.iconst 0, 1) := by decide +kernel
theorem dX12_door__13 : decode cX12_door_ 13 = .ok (.istore 4, 2) := by decide +kernel
theorem dX12_door__15 : decode cX12_door_ 15 = .ok (.iload 4, 2) := by decide +kernel
theorem dX12_door__17 : decode cX12_door_ 17 = .ok (.aload_n 0, 1) := by decide +kernel
theorem dX12_door__18 : decode cX12_door_ 18 = .ok (.getfield 80, 3) := by decide +kernel
theorem dX12_door__21 : decode cX12_door_ 21 = .ok (.aload_n 0, 1) := by decide +kernel
theorem dX12_door__22 : decode cX12_door_ 22 = .ok (.getfield 48, 3) := by decide +kernel
theorem dX12_door__25 : decode cX12_door_ 25 = .ok (.iaload, 1) := by decide +kernel
theorem dX12_door__26 : decode cX12_door_ 26 = .ok (.if_icmp .ge 27, 3) := by decide +kernel
theorem dX12_door__29 : decode cX12_door_ 29 = .ok (.iload_n 3, 1) := by decide +kernel
theorem dX12_door__30 : decode cX12_door_ 30 = .ok (.aload_n 0, 1) := by decide +kernel
theorem dX12_door__31 : decode cX12_door_ 31 = .ok (.iload 4, 2) := by decide +kernel
theorem dX12_door__33 : decode cX12_door_ 33 = .ok (.iload_n 1, 1) := by decide +kernel
theorem dX12_door__34 : decode cX12_door_ 34 = .ok (.invokevirtual 490, 3) := by decide +kernel
theorem dX12_door__37 : decode cX12_door_ 37 = .ok (.ifCond .eq 7, 3) := by decide +kernel
theorem dX12_door__40 : decode cX12_door_ 40 = .ok (.iconst 1, 1) := by decide +kernel
theorem dX12_door__41 : decode cX12_door_ 41 = .ok (.goto 4, 3) := by decide +kernel
theorem dX12_door__44 : decode cX12_door_ 44 = .ok (.iconst 0, 1) := by decide +kernel
theorem dX12_door__45 : decode cX12_door_ 45 = .ok (.iadd, 1) := by decide +kernel
theorem dX12_door__46 : decode cX12_door_ 46 = .ok (.istore_n 3, 1) := by decide +kernel
theorem dX12_door__47 : decode cX12_door_ 47 = .ok (.iinc 4 1, 3) := by decide +kernel
theorem dX12_door__50 : decode cX12_door_ 50 = .ok (.goto (-35), 3) := by decide +kernel
theorem dX12_door__53 : decode cX12_door_ 53 = .ok (.iload_n 2, 1) := by decide +kernel
theorem dX12_door__54 : decode cX12_door_ 54 = .ok (.tableswitch 147 0 7 #[46, 57, 68, 87, 98, 112, 114, 133], 46) := by decide +kernel
theorem dX12_door__100 : decode cX12_door_ 100 = .ok (.aload_n 0, 1) := by decide +kernel
theorem dX12_door__101 : decode cX12_door_ 101 = .ok (.getfield 64, 3) := by decide +kernel
theorem dX12_door__104 : decode cX12_door_ 104 = .ok (.aload_n 0, 1) := by decide +kernel
theorem dX12_door__105 : decode cX12_door_ 105 = .ok (.iload_n 1, 1) := by decide +kernel
theorem dX12_door__106 : decode cX12_door_ 106 = .ok (.invokevirtual 487, 3) := by decide +kernel
theorem dX12_door__109 : decode cX12_door_ 109 = .ok (.iaload, 1) := by decide +kernel
theorem dX12_door__110 : decode cX12_door_ 110 = .ok (.ireturn, 1) := by decide +kernel
theorem dX12_door__111 : decode cX12_door_ 111 = .ok (.aload_n 0, 1) := by decide +kernel
theorem dX12_door__112 : decode cX12_door_ 112 = .ok (.getfield 67, 3) := by decide +kernel
theorem dX12_door__115 : decode cX12_door_ 115 = .ok (.aload_n 0, 1) := by decide +kernel
theorem dX12_door__116 : decode cX12_door_ 116 = .ok (.iload_n 1, 1) := by decide +kernel
theorem dX12_door__117 : decode cX12_door_ 117 = .ok (.invokevirtual 487, 3) := by decide +kernel
theorem dX12_door__120 : decode cX12_door_ 120 = .ok (.iaload, 1) := by decide +kernel
theorem dX12_door__121 : decode cX12_door_ 121 = .ok (.ireturn, 1) := by decide +kernel
theorem dX12_door__122 : decode cX12_door_ 122 = .ok (.aload_n 0, 1) := by decide +kernel
theorem dX12_door__123 : decode cX12_door_ 123 = .ok (.getfield 70, 3) := by decide +kernel
theorem dX12_door__126 : decode cX12_door_ 126 = .ok (.aload_n 0, 1) := by decide +kernel
theorem dX12_door__127 : decode cX12_door_ 127 = .ok (.iload_n 1, 1) := by decide +kernel
theorem dX12_door__128 : decode cX12_door_ 128 = .ok (.invokevirtual 487, 3) := by decide +kernel
theorem dX12_door__131 : decode cX12_door_ 131 = .ok (.baload, 1) := by decide +kernel
theorem dX12_door__132 : decode cX12_door_ 132 = .ok (.ifCond .eq 7, 3) := by decide +kernel
theorem dX12_door__135 : decode cX12_door_ 135 = .ok (.iconst 1, 1) := by decide +kernel
theorem dX12_door__136 : decode cX12_door_ 136 = .ok (.goto 4, 3) := by decide +kernel
theorem dX12_door__139 : decode cX12_door_ 139 = .ok (.iconst 0, 1) := by decide +kernel
theorem dX12_door__140 : decode cX12_door_ 140 = .ok (.ireturn, 1) := by decide +kernel
theorem dX12_door__141 : decode cX12_door_ 141 = .ok (.aload_n 0, 1) := by decide +kernel
theorem dX12_door__142 : decode cX12_door_ 142 = .ok (.getfield 74, 3) := by decide +kernel
theorem dX12_door__145 : decode cX12_door_ 145 = .ok (.aload_n 0, 1) := by decide +kernel
theorem dX12_door__146 : decode cX12_door_ 146 = .ok (.iload_n 1, 1) := by decide +kernel
theorem dX12_door__147 : decode cX12_door_ 147 = .ok (.invokevirtual 487, 3) := by decide +kernel
theorem dX12_door__150 : decode cX12_door_ 150 = .ok (.iaload, 1) := by decide +kernel
theorem dX12_door__151 : decode cX12_door_ 151 = .ok (.ireturn, 1) := by decide +kernel
theorem dX12_door__152 : decode cX12_door_ 152 = .ok (.aload_n 0, 1) := by decide +kernel
theorem dX12_door__153 : decode cX12_door_ 153 = .ok (.iload_n 1, 1) := by decide +kernel
theorem dX12_door__154 : decode cX12_door_ 154 = .ok (.invokevirtual 493, 3) := by decide +kernel
theorem dX12_door__157 : decode cX12_door_ 157 = .ok (.ifCond .eq 7, 3) := by decide +kernel
theorem dX12_door__160 : decode cX12_door_ 160 = .ok (.iconst 1, 1) := by decide +kernel
theorem dX12_door__161 : decode cX12_door_ 161 = .ok (.goto 4, 3) := by decide +kernel
theorem dX12_door__164 : decode cX12_door_ 164 = .ok (.iconst 0, 1) := by decide +kernel
theorem dX12_door__165 : decode cX12_door_ 165 = .ok (.ireturn, 1) := by decide +kernel
theorem dX12_door__166 : decode cX12_door_ 166 = .ok (.iload_n 3, 1) := by decide +kernel
theorem dX12_door__167 : decode cX12_door_ 167 = .ok (.ireturn, 1) := by decide +kernel
theorem dX12_door__168 : decode cX12_door_ 168 = .ok (.aload_n 0, 1) := by decide +kernel
theorem dX12_door__169 : decode cX12_door_ 169 = .ok (.getfield 77, 3) := by decide +kernel
theorem dX12_door__172 : decode cX12_door_ 172 = .ok (.aload_n 0, 1) := by decide +kernel
theorem dX12_door__173 : decode cX12_door_ 173 = .ok (.iload_n 1, 1) := by decide +kernel
theorem dX12_door__174 : decode cX12_door_ 174 = .ok (.invokevirtual 487, 3) := by decide +kernel
theorem dX12_door__177 : decode cX12_door_ 177 = .ok (.baload, 1) := by decide +kernel
theorem dX12_door__178 : decode cX12_door_ 178 = .ok (.ifCond .eq 7, 3) := by decide +kernel
theorem dX12_door__181 : decode cX12_door_ 181 = .ok (.iconst 1, 1) := by decide +kernel
theorem dX12_door__182 : decode cX12_door_ 182 = .ok (.goto 4, 3) := by decide +kernel
theorem dX12_door__185 : decode cX12_door_ 185 = .ok (.iconst 0, 1) := by decide +kernel
theorem dX12_door__186 : decode cX12_door_ 186 = .ok (.ireturn, 1) := by decide +kernel
theorem dX12_door__187 : decode cX12_door_ 187 = .ok (.aload_n 0, 1) := by decide +kernel
theorem dX12_door__188 : decode cX12_door_ 188 = .ok (.iload_n 1, 1) := by decide +kernel
theorem dX12_door__189 : decode cX12_door_ 189 = .ok (.invokevirtual 499, 3) := by decide +kernel
theorem dX12_door__192 : decode cX12_door_ 192 = .ok (.ifCond .eq 7, 3) := by decide +kernel
theorem dX12_door__195 : decode cX12_door_ 195 = .ok (.iconst 1, 1) := by decide +kernel
theorem dX12_door__196 : decode cX12_door_ 196 = .ok (.goto 4, 3) := by decide +kernel
theorem dX12_door__199 : decode cX12_door_ 199 = .ok (.iconst 0, 1) := by decide +kernel
theorem dX12_door__200 : decode cX12_door_ 200 = .ok (.ireturn, 1) := by decide +kernel
theorem dX12_door__201 : decode cX12_door_ 201 = .ok (.iconst (-1), 1) := by decide +kernel
theorem dX12_door__202 : decode cX12_door_ 202 = .ok (.ireturn, 1) := by decide +kernel
theorem dX12_key__0 : decode cX12_key_ 0 = .ok (.aload_n 0, 1) := by decide +kernel
theorem dX12_key__1 : decode cX12_key_ 1 = .ok (.iload_n 1, 1) := by decide +kernel
theorem dX12_key__2 : decode cX12_key_ 2 = .ok (.invokevirtual 510, 3) := by decide +kernel
theorem dX12_key__5 : decode cX12_key_ 5 = .ok (.ifCond .ne 7, 3) := by decide +kernel
theorem dX12_key__8 : decode cX12_key_ 8 = .ok (.iconst (-1), 1) := by decide +kernel
theorem dX12_key__9 : decode cX12_key_ 9 = .ok (.goto 52, 3) := by decide +kernel
theorem dX12_key__12 : decode cX12_key_ 12 = .ok (.iload_n 2, 1) := by decide +kernel
theorem dX12_key__13 : decode cX12_key_ 13 = .ok (.ifCond .ne 16, 3) := by decide +kernel
theorem dX12_key__16 : decode cX12_key_ 16 = .ok (.aload_n 0, 1) := by decide +kernel
theorem dX12_key__17 : decode cX12_key_ 17 = .ok (.getfield 86, 3) := by decide +kernel
theorem dX12_key__20 : decode cX12_key_ 20 = .ok (.aload_n 0, 1) := by decide +kernel
theorem dX12_key__21 : decode cX12_key_ 21 = .ok (.iload_n 1, 1) := by decide +kernel
theorem dX12_key__22 : decode cX12_key_ 22 = .ok (.invokevirtual 484, 3) := by decide +kernel
theorem dX12_key__25 : decode cX12_key_ 25 = .ok (.iaload, 1) := by decide +kernel
theorem dX12_key__26 : decode cX12_key_ 26 = .ok (.goto 35, 3) := by decide +kernel
theorem dX12_key__29 : decode cX12_key_ 29 = .ok (.iload_n 2, 1) := by decide +kernel
theorem dX12_key__30 : decode cX12_key_ 30 = .ok (.iconst 1, 1) := by decide +kernel
theorem dX12_key__31 : decode cX12_key_ 31 = .ok (.if_icmp .ne 16, 3) := by decide +kernel
theorem dX12_key__34 : decode cX12_key_ 34 = .ok (.aload_n 0, 1) := by decide +kernel
theorem dX12_key__35 : decode cX12_key_ 35 = .ok (.getfield 89, 3) := by decide +kernel
theorem dX12_key__38 : decode cX12_key_ 38 = .ok (.aload_n 0, 1) := by decide +kernel
theorem dX12_key__39 : decode cX12_key_ 39 = .ok (.iload_n 1, 1) := by decide +kernel
theorem dX12_key__40 : decode cX12_key_ 40 = .ok (.invokevirtual 484, 3) := by decide +kernel
theorem dX12_key__43 : decode cX12_key_ 43 = .ok (.iaload, 1) := by decide +kernel
theorem dX12_key__44 : decode cX12_key_ 44 = .ok (.goto 17, 3) := by decide +kernel
theorem dX12_key__47 : decode cX12_key_ 47 = .ok (.iload_n 2, 1) := by decide +kernel
theorem dX12_key__48 : decode cX12_key_ 48 = .ok (.iconst 2, 1) := by decide +kernel
theorem dX12_key__49 : decode cX12_key_ 49 = .ok (.if_icmp .ne 11, 3) := by decide +kernel
theorem dX12_key__52 : decode cX12_key_ 52 = .ok (.aload_n 0, 1) := by decide +kernel
theorem dX12_key__53 : decode cX12_key_ 53 = .ok (.iload_n 1, 1) := by decide +kernel
theorem dX12_key__54 : decode cX12_key_ 54 = .ok (.invokevirtual 513, 3) := by decide +kernel
theorem dX12_key__57 : decode cX12_key_ 57 = .ok (.goto 4, 3) := by decide +kernel
theorem dX12_key__60 : decode cX12_key_ 60 = .ok (.iconst (-1), 1) := by decide +kernel
theorem dX12_key__61 : decode cX12_key_ 61 = .ok (.ireturn, 1) := by decide +kernel
theorem dX12_in_0 : decode cX12_in 0 = .ok (.aload_n 0, 1) := by decide +kernel
theorem dX12_in_1 : decode cX12_in 1 = .ok (.iload_n 1, 1) := by decide +kernel
theorem dX12_in_2 : decode cX12_in 2 = .ok (.invokevirtual 510, 3) := by decide +kernel
theorem dX12_in_5 : decode cX12_in 5 = .ok (.ifCond .eq 23, 3) := by decide +kernel
theorem dX12_in_8 : decode cX12_in 8 = .ok (.iload_n 2, 1) := by decide +kernel
theorem dX12_in_9 : decode cX12_in 9 = .ok (.iconst 0, 1) := by decide +kernel
theorem dX12_in_10 : decode cX12_in 10 = .ok (.aload_n 0, 1) := by decide +kernel
theorem dX12_in_11 : decode cX12_in 11 = .ok (.getfield 89, 3) := by decide +kernel
theorem dX12_in_14 : decode cX12_in 14 = .ok (.aload_n 0, 1) := by decide +kernel
theorem dX12_in_15 : decode cX12_in 15 = .ok (.iload_n 1, 1) := by decide +kernel
theorem dX12_in_16 : decode cX12_in 16 = .ok (.invokevirtual 484, 3) := by decide +kernel
theorem dX12_in_19 : decode cX12_in 19 = .ok (.iaload, 1) := by decide +kernel
theorem dX12_in_20 : decode cX12_in 20 = .ok (.iconst 1, 1) := by decide +kernel
theorem dX12_in_21 : decode cX12_in 21 = .ok (.isub, 1) := by decide +kernel
theorem dX12_in_22 : decode cX12_in 22 = .ok (.invokestatic 352, 3) := by decide +kernel
theorem dX12_in_25 : decode cX12_in 25 = .ok (.ifCond .ne 7, 3) := by decide +kernel
theorem dX12_in_28 : decode cX12_in 28 = .ok (.iconst (-1), 1) := by decide +kernel
theorem dX12_in_29 : decode cX12_in 29 = .ok (.goto 18, 3) := by decide +kernel
theorem dX12_in_32 : decode cX12_in 32 = .ok (.aload_n 0, 1) := by decide +kernel
theorem dX12_in_33 : decode cX12_in 33 = .ok (.getfield 92, 3) := by decide +kernel
theorem dX12_in_36 : decode cX12_in 36 = .ok (.bipush 10, 2) := by decide +kernel
theorem dX12_in_38 : decode cX12_in 38 = .ok (.aload_n 0, 1) := by decide +kernel
theorem dX12_in_39 : decode cX12_in 39 = .ok (.iload_n 1, 1) := by decide +kernel
theorem dX12_in_40 : decode cX12_in 40 = .ok (.invokevirtual 484, 3) := by decide +kernel
theorem dX12_in_43 : decode cX12_in 43 = .ok (.imul, 1) := by decide +kernel
theorem dX12_in_44 : decode cX12_in 44 = .ok (.iload_n 2, 1) := by decide +kernel
theorem dX12_in_45 : decode cX12_in 45 = .ok (.iadd, 1) := by decide +kernel
theorem dX12_in_46 : decode cX12_in 46 = .ok (.iaload, 1) := by decide +kernel
theorem dX12_in_47 : decode cX12_in 47 = .ok (.ireturn, 1) := by decide +kernel
theorem dX12_keysOf_0 : decode cX12_keysOf 0 = .ok (.iconst 0, 1) := by decide +kernel
theorem dX12_keysOf_1 : decode cX12_keysOf 1 = .ok (.istore_n 2, 1) := by decide +kernel
theorem dX12_keysOf_2 : decode cX12_keysOf 2 = .ok (.iconst 0, 1) := by decide +kernel
theorem dX12_keysOf_3 : decode cX12_keysOf 3 = .ok (.istore_n 3, 1) := by decide +kernel
theorem dX12_keysOf_4 : decode cX12_keysOf 4 = .ok (.iload_n 3, 1) := by decide +kernel
theorem dX12_keysOf_5 : decode cX12_keysOf 5 = .ok (.aload_n 0, 1) := by decide +kernel
theorem dX12_keysOf_6 : decode cX12_keysOf 6 = .ok (.getfield 80, 3) := by decide +kernel
theorem dX12_keysOf_9 : decode cX12_keysOf 9 = .ok (.aload_n 0, 1) := by decide +kernel
theorem dX12_keysOf_10 : decode cX12_keysOf 10 = .ok (.getfield 48, 3) := by decide +kernel
theorem dX12_keysOf_13 : decode cX12_keysOf 13 = .ok (.iaload, 1) := by decide +kernel
theorem dX12_keysOf_14 : decode cX12_keysOf 14 = .ok (.if_icmp .ge 33, 3) := by decide +kernel
theorem dX12_keysOf_17 : decode cX12_keysOf 17 = .ok (.iload_n 2, 1) := by decide +kernel
theorem dX12_keysOf_18 : decode cX12_keysOf 18 = .ok (.aload_n 0, 1) := by decide +kernel
theorem dX12_keysOf_19 : decode cX12_keysOf 19 = .ok (.getfield 86, 3) := by decide +kernel
theorem dX12_keysOf_22 : decode cX12_keysOf 22 = .ok (.aload_n 0, 1) := by decide +kernel
theorem dX12_keysOf_23 : decode cX12_keysOf 23 = .ok (.iload_n 3, 1) := by decide +kernel
theorem dX12_keysOf_24 : decode cX12_keysOf 24 = .ok (.invokevirtual 484, 3) := by decide +kernel
theorem dX12_keysOf_27 : decode cX12_keysOf 27 = .ok (.iaload, 1) := by decide +kernel
theorem dX12_keysOf_28 : decode cX12_keysOf 28 = .ok (.iload_n 1, 1) := by decide +kernel
theorem dX12_keysOf_29 : decode cX12_keysOf 29 = .ok (.if_icmp .ne 9, 3) := by decide +kernel
theorem dX12_keysOf_32 : decode cX12_keysOf 32 = .ok (.iconst 1, 1) := by decide +kernel
theorem dX12_keysOf_33 : decode cX12_keysOf 33 = .ok (.iload_n 3, 1) := by decide +kernel
theorem dX12_keysOf_34 : decode cX12_keysOf 34 = .ok (.ishl, 1) := by decide +kernel
theorem dX12_keysOf_35 : decode cX12_keysOf 35 = .ok (.goto 4, 3) := by decide +kernel
theorem dX12_keysOf_38 : decode cX12_keysOf 38 = .ok (.iconst 0, 1) := by decide +kernel
theorem dX12_keysOf_39 : decode cX12_keysOf 39 = .ok (.ior, 1) := by decide +kernel
theorem dX12_keysOf_40 : decode cX12_keysOf 40 = .ok (.istore_n 2, 1) := by decide +kernel
theorem dX12_keysOf_41 : decode cX12_keysOf 41 = .ok (.iinc 3 1, 3) := by decide +kernel
theorem dX12_keysOf_44 : decode cX12_keysOf 44 = .ok (.goto (-40), 3) := by decide +kernel
theorem dX12_keysOf_47 : decode cX12_keysOf 47 = .ok (.iload_n 2, 1) := by decide +kernel
theorem dX12_keysOf_48 : decode cX12_keysOf 48 = .ok (.ireturn, 1) := by decide +kernel
theorem dX12_bitsOf_0 : decode cX12_bitsOf 0 = .ok (.iconst 0, 1) := by decide +kernel
theorem dX12_bitsOf_1 : decode cX12_bitsOf 1 = .ok (.istore_n 1, 1) := by decide +kernel
theorem dX12_bitsOf_2 : decode cX12_bitsOf 2 = .ok (.iload_n 0, 1) := by decide +kernel
theorem dX12_bitsOf_3 : decode cX12_bitsOf 3 = .ok (.istore_n 2, 1) := by decide +kernel
theorem dX12_bitsOf_4 : decode cX12_bitsOf 4 = .ok (.iload_n 2, 1) := by decide +kernel
theorem dX12_bitsOf_5 : decode cX12_bitsOf 5 = .ok (.ifCond .eq 16, 3) := by decide +kernel
theorem dX12_bitsOf_8 : decode cX12_bitsOf 8 = .ok (.iload_n 1, 1) := by decide +kernel
theorem dX12_bitsOf_9 : decode cX12_bitsOf 9 = .ok (.iload_n 2, 1) := by decide +kernel
theorem dX12_bitsOf_10 : decode cX12_bitsOf 10 = .ok (.iconst 1, 1) := by decide +kernel
theorem dX12_bitsOf_11 : decode cX12_bitsOf 11 = .ok (.iand, 1) := by decide +kernel
theorem dX12_bitsOf_12 : decode cX12_bitsOf 12 = .ok (.iadd, 1) := by decide +kernel
theorem dX12_bitsOf_13 : decode cX12_bitsOf 13 = .ok (.istore_n 1, 1) := by decide +kernel
theorem dX12_bitsOf_14 : decode cX12_bitsOf 14 = .ok (.iload_n 2, 1) := by decide +kernel
theorem dX12_bitsOf_15 : decode cX12_bitsOf 15 = .ok (.iconst 1, 1) := by decide +kernel
theorem dX12_bitsOf_16 : decode cX12_bitsOf 16 = .ok (.iushr, 1) := by decide +kernel
theorem dX12_bitsOf_17 : decode cX12_bitsOf 17 = .ok (.istore_n 2, 1) := by decide +kernel
theorem dX12_bitsOf_18 : decode cX12_bitsOf 18 = .ok (.goto (-14), 3) := by decide +kernel
theorem dX12_bitsOf_21 : decode cX12_bitsOf 21 = .ok (.iload_n 1, 1) := by decide +kernel
theorem dX12_bitsOf_22 : decode cX12_bitsOf 22 = .ok (.ireturn, 1) := by decide +kernel
