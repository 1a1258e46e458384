theorem dX12_add_0 : decode cX12_add 0 = .ok (.aload_n 0, 1) := by decide +kernel
theorem dX12_add_1 : decode cX12_add 1 = .ok (.getfield 146, 3) := by decide +kernel
theorem dX12_add_4 : decode cX12_add 4 = .ok (.sipush 1600, 3) := by decide +kernel
theorem dX12_add_7 : decode cX12_add 7 = .ok (.aload_n 0, 1) := by decide +kernel
theorem dX12_add_8 : decode cX12_add 8 = .ok (.getfield 155, 3) := by decide +kernel
theorem dX12_add_11 : decode cX12_add 11 = .ok (.imul, 1) := by decide +kernel
theorem dX12_add_12 : decode cX12_add 12 = .ok (.aload_n 0, 1) := by decide +kernel
theorem dX12_add_13 : decode cX12_add 13 = .ok (.getfield 152, 3) := by decide +kernel
theorem dX12_add_16 : decode cX12_add 16 = .ok (.iadd, 1) := by decide +kernel
theorem dX12_add_17 : decode cX12_add 17 = .ok (.iload_n 1, 1) := by decide +kernel
theorem dX12_add_18 : decode cX12_add 18 = .ok (.iastore, 1) := by decide +kernel
theorem dX12_add_19 : decode cX12_add 19 = .ok (.aload_n 0, 1) := by decide +kernel
theorem dX12_add_20 : decode cX12_add 20 = .ok (.getfield 149, 3) := by decide +kernel
theorem dX12_add_23 : decode cX12_add 23 = .ok (.sipush 1600, 3) := by decide +kernel
theorem dX12_add_26 : decode cX12_add 26 = .ok (.aload_n 0, 1) := by decide +kernel
theorem dX12_add_27 : decode cX12_add 27 = .ok (.getfield 155, 3) := by decide +kernel
theorem dX12_add_30 : decode cX12_add 30 = .ok (.imul, 1) := by decide +kernel
theorem dX12_add_31 : decode cX12_add 31 = .ok (.aload_n 0, 1) := by decide +kernel
theorem dX12_add_32 : decode cX12_add 32 = .ok (.getfield 152, 3) := by decide +kernel
theorem dX12_add_35 : decode cX12_add 35 = .ok (.iadd, 1) := by decide +kernel
theorem dX12_add_36 : decode cX12_add 36 = .ok (.iload_n 2, 1) := by decide +kernel
theorem dX12_add_37 : decode cX12_add 37 = .ok (.iastore, 1) := by decide +kernel
theorem dX12_add_38 : decode cX12_add 38 = .ok (.aload_n 0, 1) := by decide +kernel
theorem dX12_add_39 : decode cX12_add 39 = .ok (.dup, 1) := by decide +kernel
theorem dX12_add_40 : decode cX12_add 40 = .ok (.getfield 152, 3) := by decide +kernel
theorem dX12_add_43 : decode cX12_add 43 = .ok (.iconst 1, 1) := by decide +kernel
theorem dX12_add_44 : decode cX12_add 44 = .ok (.iadd, 1) := by decide +kernel
theorem dX12_add_45 : decode cX12_add 45 = .ok (.putfield 152, 3) := by decide +kernel
theorem dX12_add_48 : decode cX12_add 48 = .ok (.return_, 1) := by decide +kernel
theorem dX12_rank_0 : decode cX12_rank 0 = .ok (.iload_n 0, 1) := by decide +kernel
theorem dX12_rank_1 : decode cX12_rank 1 = .ok (.bipush 21, 2) := by decide +kernel
theorem dX12_rank_3 : decode cX12_rank 3 = .ok (.if_icmp .ne 7, 3) := by decide +kernel
theorem dX12_rank_6 : decode cX12_rank 6 = .ok (.iconst 1, 1) := by decide +kernel
theorem dX12_rank_7 : decode cX12_rank 7 = .ok (.goto 63, 3) := by decide +kernel
theorem dX12_rank_10 : decode cX12_rank 10 = .ok (.iload_n 0, 1) := by decide +kernel
theorem dX12_rank_11 : decode cX12_rank 11 = .ok (.bipush 20, 2) := by decide +kernel
theorem dX12_rank_13 : decode cX12_rank 13 = .ok (.if_icmp .ne 7, 3) := by decide +kernel
theorem dX12_rank_16 : decode cX12_rank 16 = .ok (.iconst 2, 1) := by decide +kernel
theorem dX12_rank_17 : decode cX12_rank 17 = .ok (.goto 53, 3) := by decide +kernel
theorem dX12_rank_20 : decode cX12_rank 20 = .ok (.iload_n 0, 1) := by decide +kernel
theorem dX12_rank_21 : decode cX12_rank 21 = .ok (.bipush 22, 2) := by decide +kernel
theorem dX12_rank_23 : decode cX12_rank 23 = .ok (.if_icmp .ne 7, 3) := by decide +kernel
theorem dX12_rank_26 : decode cX12_rank 26 = .ok (.iconst 3, 1) := by decide +kernel
theorem dX12_rank_27 : decode cX12_rank 27 = .ok (.goto 43, 3) := by decide +kernel
theorem dX12_rank_30 : decode cX12_rank 30 = .ok (.iload_n 0, 1) := by decide +kernel
theorem dX12_rank_31 : decode cX12_rank 31 = .ok (.bipush 17, 2) := by decide +kernel
theorem dX12_rank_33 : decode cX12_rank 33 = .ok (.if_icmp .eq 15, 3) := by decide +kernel
theorem dX12_rank_36 : decode cX12_rank 36 = .ok (.iload_n 0, 1) := by decide +kernel
theorem dX12_rank_37 : decode cX12_rank 37 = .ok (.bipush 18, 2) := by decide +kernel
theorem dX12_rank_39 : decode cX12_rank 39 = .ok (.if_icmp .eq 9, 3) := by decide +kernel
theorem dX12_rank_42 : decode cX12_rank 42 = .ok (.iload_n 0, 1) := by decide +kernel
theorem dX12_rank_43 : decode cX12_rank 43 = .ok (.bipush 19, 2) := by decide +kernel
theorem dX12_rank_45 : decode cX12_rank 45 = .ok (.if_icmp .ne 7, 3) := by decide +kernel
theorem dX12_rank_48 : decode cX12_rank 48 = .ok (.iconst 4, 1) := by decide +kernel
theorem dX12_rank_49 : decode cX12_rank 49 = .ok (.goto 21, 3) := by decide +kernel
theorem dX12_rank_52 : decode cX12_rank 52 = .ok (.iload_n 0, 1) := by decide +kernel
theorem dX12_rank_53 : decode cX12_rank 53 = .ok (.bipush 10, 2) := by decide +kernel
theorem dX12_rank_55 : decode cX12_rank 55 = .ok (.if_icmp .eq 9, 3) := by decide +kernel
theorem dX12_rank_58 : decode cX12_rank 58 = .ok (.iload_n 0, 1) := by decide +kernel
theorem dX12_rank_59 : decode cX12_rank 59 = .ok (.bipush 11, 2) := by decide +kernel
theorem dX12_rank_61 : decode cX12_rank 61 = .ok (.if_icmp .ne 7, 3) := by decide +kernel
theorem dX12_rank_64 : decode cX12_rank 64 = .ok (.iconst 5, 1) := by decide +kernel
theorem dX12_rank_65 : decode cX12_rank 65 = .ok (.goto 5, 3) := by decide +kernel
theorem dX12_rank_68 : decode cX12_rank 68 = .ok (.bipush 6, 2) := by decide +kernel
theorem dX12_rank_70 : decode cX12_rank 70 = .ok (.ireturn, 1) := by decide +kernel
theorem dX12_holdsBack_0 : decode cX12_holdsBack 0 = .ok (.aload_n 0, 1) := by decide +kernel
theorem dX12_holdsBack_1 : decode cX12_holdsBack 1 = .ok (.getfield 179, 3) := by decide +kernel
theorem dX12_holdsBack_4 : decode cX12_holdsBack 4 = .ok (.aload_n 0, 1) := by decide +kernel
theorem dX12_holdsBack_5 : decode cX12_holdsBack 5 = .ok (.getfield 182, 3) := by decide +kernel
theorem dX12_holdsBack_8 : decode cX12_holdsBack 8 = .ok (.iload_n 1, 1) := by decide +kernel
theorem dX12_holdsBack_9 : decode cX12_holdsBack 9 = .ok (.iastore, 1) := by decide +kernel
theorem dX12_holdsBack_10 : decode cX12_holdsBack 10 = .ok (.aload_n 0, 1) := by decide +kernel
theorem dX12_holdsBack_11 : decode cX12_holdsBack 11 = .ok (.dup, 1) := by decide +kernel
theorem dX12_holdsBack_12 : decode cX12_holdsBack 12 = .ok (.getfield 182, 3) := by decide +kernel
theorem dX12_holdsBack_15 : decode cX12_holdsBack 15 = .ok (.iconst 1, 1) := by decide +kernel
theorem dX12_holdsBack_16 : decode cX12_holdsBack 16 = .ok (.iadd, 1) := by decide +kernel
theorem dX12_holdsBack_17 : decode cX12_holdsBack 17 = .ok (.putfield 182, 3) := by decide +kernel
theorem dX12_holdsBack_20 : decode cX12_holdsBack 20 = .ok (.return_, 1) := by decide +kernel
theorem dX12_pushes_0 : decode cX12_pushes 0 = .ok (.aload_n 0, 1) := by decide +kernel
theorem dX12_pushes_1 : decode cX12_pushes 1 = .ok (.getfield 158, 3) := by decide +kernel
theorem dX12_pushes_4 : decode cX12_pushes 4 = .ok (.aload_n 0, 1) := by decide +kernel
theorem dX12_pushes_5 : decode cX12_pushes 5 = .ok (.getfield 173, 3) := by decide +kernel
theorem dX12_pushes_8 : decode cX12_pushes 8 = .ok (.iload_n 1, 1) := by decide +kernel
theorem dX12_pushes_9 : decode cX12_pushes 9 = .ok (.iastore, 1) := by decide +kernel
theorem dX12_pushes_10 : decode cX12_pushes 10 = .ok (.aload_n 0, 1) := by decide +kernel
theorem dX12_pushes_11 : decode cX12_pushes 11 = .ok (.getfield 161, 3) := by decide +kernel
theorem dX12_pushes_14 : decode cX12_pushes 14 = .ok (.aload_n 0, 1) := by decide +kernel
theorem dX12_pushes_15 : decode cX12_pushes 15 = .ok (.getfield 173, 3) := by decide +kernel
theorem dX12_pushes_18 : decode cX12_pushes 18 = .ok (.iconst 0, 1) := by decide +kernel
theorem dX12_pushes_19 : decode cX12_pushes 19 = .ok (.iastore, 1) := by decide +kernel
theorem dX12_pushes_20 : decode cX12_pushes 20 = .ok (.aload_n 0, 1) := by decide +kernel
theorem dX12_pushes_21 : decode cX12_pushes 21 = .ok (.getfield 164, 3) := by decide +kernel
theorem dX12_pushes_24 : decode cX12_pushes 24 = .ok (.aload_n 0, 1) := by decide +kernel
theorem dX12_pushes_25 : decode cX12_pushes 25 = .ok (.getfield 173, 3) := by decide +kernel
theorem dX12_pushes_28 : decode cX12_pushes 28 = .ok (.iconst 1, 1) := by decide +kernel
theorem dX12_pushes_29 : decode cX12_pushes 29 = .ok (.bastore, 1) := by decide +kernel
theorem dX12_pushes_30 : decode cX12_pushes 30 = .ok (.aload_n 0, 1) := by decide +kernel
theorem dX12_pushes_31 : decode cX12_pushes 31 = .ok (.getfield 170, 3) := by decide +kernel
theorem dX12_pushes_34 : decode cX12_pushes 34 = .ok (.aload_n 0, 1) := by decide +kernel
theorem dX12_pushes_35 : decode cX12_pushes 35 = .ok (.getfield 173, 3) := by decide +kernel
theorem dX12_pushes_38 : decode cX12_pushes 38 = .ok (.aload_n 0, 1) := by decide +kernel
theorem dX12_pushes_39 : decode cX12_pushes 39 = .ok (.getfield 182, 3) := by decide +kernel
theorem dX12_pushes_42 : decode cX12_pushes 42 = .ok (.iastore, 1) := by decide +kernel
theorem dX12_pushes_43 : decode cX12_pushes 43 = .ok (.aload_n 0, 1) := by decide +kernel
theorem dX12_pushes_44 : decode cX12_pushes 44 = .ok (.dup, 1) := by decide +kernel
theorem dX12_pushes_45 : decode cX12_pushes 45 = .ok (.getfield 173, 3) := by decide +kernel
theorem dX12_pushes_48 : decode cX12_pushes 48 = .ok (.iconst 1, 1) := by decide +kernel
theorem dX12_pushes_49 : decode cX12_pushes 49 = .ok (.iadd, 1) := by decide +kernel
theorem dX12_pushes_50 : decode cX12_pushes 50 = .ok (.putfield 173, 3) := by decide +kernel
theorem dX12_pushes_53 : decode cX12_pushes 53 = .ok (.return_, 1) := by decide +kernel
theorem dX12_isTest_0 : decode cX12_isTest 0 = .ok (.iload_n 0, 1) := by decide +kernel
theorem dX12_isTest_1 : decode cX12_isTest 1 = .ok (.iconst 1, 1) := by decide +kernel
theorem dX12_isTest_2 : decode cX12_isTest 2 = .ok (.if_icmp .eq 8, 3) := by decide +kernel
theorem dX12_isTest_5 : decode cX12_isTest 5 = .ok (.iload_n 0, 1) := by decide +kernel
theorem dX12_isTest_6 : decode cX12_isTest 6 = .ok (.iconst 5, 1) := by decide +kernel
theorem dX12_isTest_7 : decode cX12_isTest 7 = .ok (.if_icmp .ne 7, 3) := by decide +kernel
theorem dX12_isTest_10 : decode cX12_isTest 10 = .ok (.iconst 1, 1) := by decide +kernel
theorem dX12_isTest_11 : decode cX12_isTest 11 = .ok (.goto 4, 3) := by decide +kernel
theorem dX12_isTest_14 : decode cX12_isTest 14 = .ok (.iconst 0, 1) := by decide +kernel
theorem dX12_isTest_15 : decode cX12_isTest 15 = .ok (.ireturn, 1) := by decide +kernel
theorem dX12_writes_0 : decode cX12_writes 0 = .ok (.aload_n 0, 1) := by decide +kernel
theorem dX12_writes_1 : decode cX12_writes 1 = .ok (.getfield 265, 3) := by decide +kernel
theorem dX12_writes_4 : decode cX12_writes 4 = .ok (.aload_n 0, 1) := by decide +kernel
theorem dX12_writes_5 : decode cX12_writes 5 = .ok (.getfield 268, 3) := by decide +kernel
theorem dX12_writes_8 : decode cX12_writes 8 = .ok (.iload_n 1, 1) := by decide +kernel
theorem dX12_writes_9 : decode cX12_writes 9 = .ok (.sipush 255, 3) := by decide +kernel
theorem dX12_writes_12 : decode cX12_writes 12 = .ok (.iand, 1) := by decide +kernel
theorem dX12_writes_13 : decode cX12_writes 13 = .ok (.iastore, 1) := by decide +kernel
theorem dX12_writes_14 : decode cX12_writes 14 = .ok (.aload_n 0, 1) := by decide +kernel
theorem dX12_writes_15 : decode cX12_writes 15 = .ok (.dup, 1) := by decide +kernel
theorem dX12_writes_16 : decode cX12_writes 16 = .ok (.getfield 268, 3) := by decide +kernel
theorem dX12_writes_19 : decode cX12_writes 19 = .ok (.iconst 1, 1) := by decide +kernel
theorem dX12_writes_20 : decode cX12_writes 20 = .ok (.iadd, 1) := by decide +kernel
theorem dX12_writes_21 : decode cX12_writes 21 = .ok (.putfield 268, 3) := by decide +kernel
theorem dX12_writes_24 : decode cX12_writes 24 = .ok (.return_, 1) := by decide +kernel
theorem dX12_image_0 : decode cX12_image 0 = .ok (.aload_n 0, 1) := by decide +kernel
theorem dX12_image_1 : decode cX12_image 1 = .ok (.iconst 0, 1) := by decide +kernel
theorem dX12_image_2 : decode cX12_image 2 = .ok (.putfield 268, 3) := by decide +kernel
theorem dX12_image_5 : decode cX12_image 5 = .ok (.iconst 0, 1) := by decide +kernel
theorem dX12_image_6 : decode cX12_image 6 = .ok (.istore_n 1, 1) := by decide +kernel
theorem dX12_image_7 : decode cX12_image 7 = .ok (.iload_n 1, 1) := by decide +kernel
theorem dX12_image_8 : decode cX12_image 8 = .ok (.aload_n 0, 1) := by decide +kernel
theorem dX12_image_9 : decode cX12_image 9 = .ok (.getfield 95, 3) := by decide +kernel
theorem dX12_image_12 : decode cX12_image 12 = .ok (.aload_n 0, 1) := by decide +kernel
theorem dX12_image_13 : decode cX12_image 13 = .ok (.getfield 48, 3) := by decide +kernel
theorem dX12_image_16 : decode cX12_image 16 = .ok (.iaload, 1) := by decide +kernel
theorem dX12_image_17 : decode cX12_image 17 = .ok (.if_icmp .ge 18, 3) := by decide +kernel
theorem dX12_image_20 : decode cX12_image 20 = .ok (.aload_n 0, 1) := by decide +kernel
theorem dX12_image_21 : decode cX12_image 21 = .ok (.aload_n 0, 1) := by decide +kernel
theorem dX12_image_22 : decode cX12_image 22 = .ok (.iload_n 1, 1) := by decide +kernel
theorem dX12_image_23 : decode cX12_image 23 = .ok (.invokevirtual 520, 3) := by decide +kernel
theorem dX12_image_26 : decode cX12_image 26 = .ok (.invokevirtual 631, 3) := by decide +kernel
theorem dX12_image_29 : decode cX12_image 29 = .ok (.iinc 1 1, 3) := by decide +kernel
theorem dX12_image_32 : decode cX12_image 32 = .ok (.goto (-25), 3) := by decide +kernel
theorem dX12_image_35 : decode cX12_image 35 = .ok (.iconst 0, 1) := by decide +kernel
theorem dX12_image_36 : decode cX12_image 36 = .ok (.istore_n 1, 1) := by decide +kernel
theorem dX12_image_37 : decode cX12_image 37 = .ok (.iload_n 1, 1) := by decide +kernel
theorem dX12_image_38 : decode cX12_image 38 = .ok (.aload_n 0, 1) := by decide +kernel
theorem dX12_image_39 : decode cX12_image 39 = .ok (.getfield 80, 3) := by decide +kernel
theorem dX12_image_42 : decode cX12_image 42 = .ok (.aload_n 0, 1) := by decide +kernel
theorem dX12_image_43 : decode cX12_image 43 = .ok (.getfield 48, 3) := by decide +kernel
theorem dX12_image_46 : decode cX12_image 46 = .ok (.iaload, 1) := by decide +kernel
theorem dX12_image_47 : decode cX12_image 47 = .ok (.if_icmp .ge 78, 3) := by decide +kernel
theorem dX12_image_50 : decode cX12_image 50 = .ok (.aload_n 0, 1) := by decide +kernel
theorem dX12_image_51 : decode cX12_image 51 = .ok (.aload_n 0, 1) := by decide +kernel
theorem dX12_image_52 : decode cX12_image 52 = .ok (.getfield 86, 3) := by decide +kernel
theorem dX12_image_55 : decode cX12_image 55 = .ok (.aload_n 0, 1) := by decide +kernel
theorem dX12_image_56 : decode cX12_image 56 = .ok (.iload_n 1, 1) := by decide +kernel
theorem dX12_image_57 : decode cX12_image 57 = .ok (.invokevirtual 484, 3) := by decide +kernel
theorem dX12_image_60 : decode cX12_image 60 = .ok (.iaload, 1) := by decide +kernel
theorem dX12_image_61 : decode cX12_image 61 = .ok (.invokevirtual 631, 3) := by decide +kernel
theorem dX12_image_64 : decode cX12_image 64 = .ok (.aload_n 0, 1) := by decide +kernel
theorem dX12_image_65 : decode cX12_image 65 = .ok (.aload_n 0, 1) := by decide +kernel
theorem dX12_image_66 : decode cX12_image 66 = .ok (.getfield 89, 3) := by decide +kernel
theorem dX12_image_69 : decode cX12_image 69 = .ok (.aload_n 0, 1) := by decide +kernel
theorem dX12_image_70 : decode cX12_image 70 = .ok (.iload_n 1, 1) := by decide +kernel
theorem dX12_image_71 : decode cX12_image 71 = .ok (.invokevirtual 484, 3) := by decide +kernel
theorem dX12_image_74 : decode cX12_image 74 = .ok (.iaload, 1) := by decide +kernel
theorem dX12_image_75 : decode cX12_image 75 = .ok (.invokevirtual 631, 3) := by decide +kernel
theorem dX12_image_78 : decode cX12_image 78 = .ok (.iconst 0, 1) := by decide +kernel
theorem dX12_image_79 : decode cX12_image 79 = .ok (.istore_n 2, 1) := by decide +kernel
theorem dX12_image_80 : decode cX12_image 80 = .ok (.iload_n 2, 1) := by decide +kernel
theorem dX12_image_81 : decode cX12_image 81 = .ok (.aload_n 0, 1) := by decide +kernel
theorem dX12_image_82 : decode cX12_image 82 = .ok (.getfield 89, 3) := by decide +kernel
theorem dX12_image_85 : decode cX12_image 85 = .ok (.aload_n 0, 1) := by decide +kernel
theorem dX12_image_86 : decode cX12_image 86 = .ok (.iload_n 1, 1) := by decide +kernel
theorem dX12_image_87 : decode cX12_image 87 = .ok (.invokevirtual 484, 3) := by decide +kernel
theorem dX12_image_90 : decode cX12_image 90 = .ok (.iaload, 1) := by decide +kernel
theorem dX12_image_91 : decode cX12_image 91 = .ok (.if_icmp .ge 28, 3) := by decide +kernel
theorem dX12_image_94 : decode cX12_image 94 = .ok (.aload_n 0, 1) := by decide +kernel
theorem dX12_image_95 : decode cX12_image 95 = .ok (.aload_n 0, 1) := by decide +kernel
theorem dX12_image_96 : decode cX12_image 96 = .ok (.getfield 92, 3) := by decide +kernel
theorem dX12_image_99 : decode cX12_image 99 = .ok (.bipush 10, 2) := by decide +kernel
theorem dX12_image_101 : decode cX12_image 101 = .ok (.aload_n 0, 1) := by decide +kernel
theorem dX12_image_102 : decode cX12_image 102 = .ok (.iload_n 1, 1) := by decide +kernel
theorem dX12_image_103 : decode cX12_image 103 = .ok (.invokevirtual 484, 3) := by decide +kernel
theorem dX12_image_106 : decode cX12_image 106 = .ok (.imul, 1) := by decide +kernel
theorem dX12_image_107 : decode cX12_image 107 = .ok (.iload_n 2, 1) := by decide +kernel
theorem dX12_image_108 : decode cX12_image 108 = .ok (.iadd, 1) := by decide +kernel
theorem dX12_image_109 : decode cX12_image 109 = .ok (.iaload, 1) := by decide +kernel
theorem dX12_image_110 : decode cX12_image 110 = .ok (.invokevirtual 631, 3) := by decide +kernel
theorem dX12_image_113 : decode cX12_image 113 = .ok (.iinc 2 1, 3) := by decide +kernel
theorem dX12_image_116 : decode cX12_image 116 = .ok (.goto (-36), 3) := by decide +kernel
theorem dX12_image_119 : decode cX12_image 119 = .ok (.iinc 1 1, 3) := by decide +kernel
theorem dX12_image_122 : decode cX12_image 122 = .ok (.goto (-85), 3) := by decide +kernel
theorem dX12_image_125 : decode cX12_image 125 = .ok (.bipush 19, 2) := by decide +kernel
theorem dX12_image_127 : decode cX12_image 127 = .ok (.istore_n 1, 1) := by decide +kernel
theorem dX12_image_128 : decode cX12_image 128 = .ok (.iconst 0, 1) := by decide +kernel
theorem dX12_image_129 : decode cX12_image 129 = .ok (.istore_n 2, 1) := by decide +kernel
theorem dX12_image_130 : decode cX12_image 130 = .ok (.iload_n 2, 1) := by decide +kernel
theorem dX12_image_131 : decode cX12_image 131 = .ok (.aload_n 0, 1) := by decide +kernel
theorem dX12_image_132 : decode cX12_image 132 = .ok (.getfield 268, 3) := by decide +kernel
theorem dX12_image_135 : decode cX12_image 135 = .ok (.if_icmp .ge 24, 3) := by decide +kernel
theorem dX12_image_138 : decode cX12_image 138 = .ok (.iconst 3, 1) := by decide +kernel
theorem dX12_image_139 : decode cX12_image 139 = .ok (.iload_n 1, 1) := by decide +kernel
theorem dX12_image_140 : decode cX12_image 140 = .ok (.imul, 1) := by decide +kernel
theorem dX12_image_141 : decode cX12_image 141 = .ok (.aload_n 0, 1) := by decide +kernel
theorem dX12_image_142 : decode cX12_image 142 = .ok (.getfield 265, 3) := by decide +kernel
theorem dX12_image_145 : decode cX12_image 145 = .ok (.iload_n 2, 1) := by decide +kernel
theorem dX12_image_146 : decode cX12_image 146 = .ok (.iaload, 1) := by decide +kernel
theorem dX12_image_147 : decode cX12_image 147 = .ok (.iadd, 1) := by decide +kernel
theorem dX12_image_148 : decode cX12_image 148 = .ok (.sipush 233, 3) := by decide +kernel
theorem dX12_image_151 : decode cX12_image 151 = .ok (.irem, 1) := by decide +kernel
theorem dX12_image_152 : decode cX12_image 152 = .ok (.istore_n 1, 1) := by decide +kernel
theorem dX12_image_153 : decode cX12_image 153 = .ok (.iinc 2 1, 3) := by decide +kernel
theorem dX12_image_156 : decode cX12_image 156 = .ok (.goto (-26), 3) := by decide +kernel
theorem dX12_image_159 : decode cX12_image 159 = .ok (.aload_n 0, 1) := by decide +kernel
theorem dX12_image_160 : decode cX12_image 160 = .ok (.iload_n 1, 1) := by decide +kernel
theorem dX12_image_161 : decode cX12_image 161 = .ok (.invokevirtual 631, 3) := by decide +kernel
theorem dX12_image_164 : decode cX12_image 164 = .ok (.aload_n 0, 1) := by decide +kernel
theorem dX12_image_165 : decode cX12_image 165 = .ok (.getfield 268, 3) := by decide +kernel
theorem dX12_image_168 : decode cX12_image 168 = .ok (.ireturn, 1) := by decide +kernel
theorem dX12_octet_0 : decode cX12_octet 0 = .ok (.iload_n 1, 1) := by decide +kernel
theorem dX12_octet_1 : decode cX12_octet 1 = .ok (.ifCond .lt 20, 3) := by decide +kernel
theorem dX12_octet_4 : decode cX12_octet 4 = .ok (.iload_n 1, 1) := by decide +kernel
theorem dX12_octet_5 : decode cX12_octet 5 = .ok (.aload_n 0, 1) := by decide +kernel
theorem dX12_octet_6 : decode cX12_octet 6 = .ok (.getfield 268, 3) := by decide +kernel
theorem dX12_octet_9 : decode cX12_octet 9 = .ok (.if_icmp .ge 12, 3) := by decide +kernel
theorem dX12_octet_12 : decode cX12_octet 12 = .ok (.aload_n 0, 1) := by decide +kernel
theorem dX12_octet_13 : decode cX12_octet 13 = .ok (.getfield 265, 3) := by decide +kernel
theorem dX12_octet_16 : decode cX12_octet 16 = .ok (.iload_n 1, 1) := by decide +kernel
theorem dX12_octet_17 : decode cX12_octet 17 = .ok (.iaload, 1) := by decide +kernel
theorem dX12_octet_18 : decode cX12_octet 18 = .ok (.goto 4, 3) := by decide +kernel
theorem dX12_octet_21 : decode cX12_octet 21 = .ok (.iconst (-1), 1) := by decide +kernel
theorem dX12_octet_22 : decode cX12_octet 22 = .ok (.ireturn, 1) := by decide +kernel
theorem dX12_mayBeAt_0 : decode cX12_mayBeAt 0 = .ok (.iload_n 1, 1) := by decide +kernel
theorem dX12_mayBeAt_1 : decode cX12_mayBeAt 1 = .ok (.bipush 10, 2) := by decide +kernel
theorem dX12_mayBeAt_3 : decode cX12_mayBeAt 3 = .ok (.if_icmp .ge 9, 3) := by decide +kernel
theorem dX12_mayBeAt_6 : decode cX12_mayBeAt 6 = .ok (.aload_n 0, 1) := by decide +kernel
theorem dX12_mayBeAt_7 : decode cX12_mayBeAt 7 = .ok (.iload_n 1, 1) := by decide +kernel
theorem dX12_mayBeAt_8 : decode cX12_mayBeAt 8 = .ok (.invokevirtual 539, 3) := by decide +kernel
theorem dX12_mayBeAt_11 : decode cX12_mayBeAt 11 = .ok (.ireturn, 1) := by decide +kernel
theorem dX12_mayBeAt_12 : decode cX12_mayBeAt 12 = .ok (.iload_n 1, 1) := by decide +kernel
theorem dX12_mayBeAt_13 : decode cX12_mayBeAt 13 = .ok (.bipush 20, 2) := by decide +kernel
theorem dX12_mayBeAt_15 : decode cX12_mayBeAt 15 = .ok (.if_icmp .ge 12, 3) := by decide +kernel
theorem dX12_mayBeAt_18 : decode cX12_mayBeAt 18 = .ok (.aload_n 0, 1) := by decide +kernel
theorem dX12_mayBeAt_19 : decode cX12_mayBeAt 19 = .ok (.iload_n 1, 1) := by decide +kernel
theorem dX12_mayBeAt_20 : decode cX12_mayBeAt 20 = .ok (.bipush 10, 2) := by decide +kernel
theorem dX12_mayBeAt_22 : decode cX12_mayBeAt 22 = .ok (.isub, 1) := by decide +kernel
theorem dX12_mayBeAt_23 : decode cX12_mayBeAt 23 = .ok (.invokevirtual 594, 3) := by decide +kernel
theorem dX12_mayBeAt_26 : decode cX12_mayBeAt 26 = .ok (.ireturn, 1) := by decide +kernel
theorem dX12_mayBeAt_27 : decode cX12_mayBeAt 27 = .ok (.iload_n 1, 1) := by decide +kernel
theorem dX12_mayBeAt_28 : decode cX12_mayBeAt 28 = .ok (.bipush 40, 2) := by decide +kernel
theorem dX12_mayBeAt_30 : decode cX12_mayBeAt 30 = .ok (.if_icmp .eq 36, 3) := by decide +kernel
theorem dX12_mayBeAt_33 : decode cX12_mayBeAt 33 = .ok (.iload_n 1, 1) := by decide +kernel
theorem dX12_mayBeAt_34 : decode cX12_mayBeAt 34 = .ok (.bipush 40, 2) := by decide +kernel
theorem dX12_mayBeAt_36 : decode cX12_mayBeAt 36 = .ok (.if_icmp .ge 34, 3) := by decide +kernel
theorem dX12_mayBeAt_39 : decode cX12_mayBeAt 39 = .ok (.aload_n 0, 1) := by decide +kernel
theorem dX12_mayBeAt_40 : decode cX12_mayBeAt 40 = .ok (.iload_n 1, 1) := by decide +kernel
theorem dX12_mayBeAt_41 : decode cX12_mayBeAt 41 = .ok (.bipush 20, 2) := by decide +kernel
theorem dX12_mayBeAt_43 : decode cX12_mayBeAt 43 = .ok (.isub, 1) := by decide +kernel
theorem dX12_mayBeAt_44 : decode cX12_mayBeAt 44 = .ok (.invokevirtual 507, 3) := by decide +kernel
theorem dX12_mayBeAt_47 : decode cX12_mayBeAt 47 = .ok (.ifCond .eq 23, 3) := by decide +kernel
theorem dX12_mayBeAt_50 : decode cX12_mayBeAt 50 = .ok (.aload_n 0, 1) := by decide +kernel
theorem dX12_mayBeAt_51 : decode cX12_mayBeAt 51 = .ok (.getfield 70, 3) := by decide +kernel
theorem dX12_mayBeAt_54 : decode cX12_mayBeAt 54 = .ok (.aload_n 0, 1) := by decide +kernel
theorem dX12_mayBeAt_55 : decode cX12_mayBeAt 55 = .ok (.iload_n 1, 1) := by decide +kernel
theorem dX12_mayBeAt_56 : decode cX12_mayBeAt 56 = .ok (.bipush 20, 2) := by decide +kernel
theorem dX12_mayBeAt_58 : decode cX12_mayBeAt 58 = .ok (.isub, 1) := by decide +kernel
theorem dX12_mayBeAt_59 : decode cX12_mayBeAt 59 = .ok (.invokevirtual 487, 3) := by decide +kernel
theorem dX12_mayBeAt_62 : decode cX12_mayBeAt 62 = .ok (.baload, 1) := by decide +kernel
theorem dX12_mayBeAt_63 : decode cX12_mayBeAt 63 = .ok (.ifCond .eq 7, 3) := by decide +kernel
theorem dX12_mayBeAt_66 : decode cX12_mayBeAt 66 = .ok (.iconst 1, 1) := by decide +kernel
theorem dX12_mayBeAt_67 : decode cX12_mayBeAt 67 = .ok (.goto 4, 3) := by decide +kernel
theorem dX12_mayBeAt_70 : decode cX12_mayBeAt 70 = .ok (.iconst 0, 1) := by decide +kernel
theorem dX12_mayBeAt_71 : decode cX12_mayBeAt 71 = .ok (.ireturn, 1) := by decide +kernel
theorem dX12_isRowAt_0 : decode cX12_isRowAt 0 = .ok (.iconst 0, 1) := by decide +kernel
theorem dX12_isRowAt_1 : decode cX12_isRowAt 1 = .ok (.istore_n 3, 1) := by decide +kernel
theorem dX12_isRowAt_2 : decode cX12_isRowAt 2 = .ok (.iload_n 3, 1) := by decide +kernel
theorem dX12_isRowAt_3 : decode cX12_isRowAt 3 = .ok (.iload_n 2, 1) := by decide +kernel
theorem dX12_isRowAt_4 : decode cX12_isRowAt 4 = .ok (.if_icmp .ge 63, 3) := by decide +kernel
theorem dX12_isRowAt_7 : decode cX12_isRowAt 7 = .ok (.aload_n 0, 1) := by decide +kernel
theorem dX12_isRowAt_8 : decode cX12_isRowAt 8 = .ok (.aload_n 0, 1) := by decide +kernel
theorem dX12_isRowAt_9 : decode cX12_isRowAt 9 = .ok (.getfield 7, 3) := by decide +kernel
theorem dX12_isRowAt_12 : decode cX12_isRowAt 12 = .ok (.iload_n 1, 1) := by decide +kernel
theorem dX12_isRowAt_13 : decode cX12_isRowAt 13 = .ok (.iload_n 3, 1) := by decide +kernel
theorem dX12_isRowAt_14 : decode cX12_isRowAt 14 = .ok (.iadd, 1) := by decide +kernel
theorem dX12_isRowAt_15 : decode cX12_isRowAt 15 = .ok (.iaload, 1) := by decide +kernel
theorem dX12_isRowAt_16 : decode cX12_isRowAt 16 = .ok (.invokevirtual 507, 3) := by decide +kernel
theorem dX12_isRowAt_19 : decode cX12_isRowAt 19 = .ok (.ifCond .ne 5, 3) := by decide +kernel
theorem dX12_isRowAt_22 : decode cX12_isRowAt 22 = .ok (.iconst 0, 1) := by decide +kernel
theorem dX12_isRowAt_23 : decode cX12_isRowAt 23 = .ok (.ireturn, 1) := by decide +kernel
theorem dX12_isRowAt_24 : decode cX12_isRowAt 24 = .ok (.iconst 0, 1) := by decide +kernel
theorem dX12_isRowAt_25 : decode cX12_isRowAt 25 = .ok (.istore 4, 2) := by decide +kernel
theorem dX12_isRowAt_27 : decode cX12_isRowAt 27 = .ok (.iload 4, 2) := by decide +kernel
theorem dX12_isRowAt_29 : decode cX12_isRowAt 29 = .ok (.iload_n 3, 1) := by decide +kernel
theorem dX12_isRowAt_30 : decode cX12_isRowAt 30 = .ok (.if_icmp .ge 31, 3) := by decide +kernel
theorem dX12_isRowAt_33 : decode cX12_isRowAt 33 = .ok (.aload_n 0, 1) := by decide +kernel
theorem dX12_isRowAt_34 : decode cX12_isRowAt 34 = .ok (.getfield 7, 3) := by decide +kernel
theorem dX12_isRowAt_37 : decode cX12_isRowAt 37 = .ok (.iload_n 1, 1) := by decide +kernel
theorem dX12_isRowAt_38 : decode cX12_isRowAt 38 = .ok (.iload 4, 2) := by decide +kernel
theorem dX12_isRowAt_40 : decode cX12_isRowAt 40 = .ok (.iadd, 1) := by decide +kernel
theorem dX12_isRowAt_41 : decode cX12_isRowAt 41 = .ok (.iaload, 1) := by decide +kernel
theorem dX12_isRowAt_42 : decode cX12_isRowAt 42 = .ok (.aload_n 0, 1) := by decide +kernel
theorem dX12_isRowAt_43 : decode cX12_isRowAt 43 = .ok (.getfield 7, 3) := by decide +kernel
theorem dX12_isRowAt_46 : decode cX12_isRowAt 46 = .ok (.iload_n 1, 1) := by decide +kernel
theorem dX12_isRowAt_47 : decode cX12_isRowAt 47 = .ok (.iload_n 3, 1) := by decide +kernel
theorem dX12_isRowAt_48 : decode cX12_isRowAt 48 = .ok (.iadd, 1) := by decide +kernel
theorem dX12_isRowAt_49 : decode cX12_isRowAt 49 = .ok (.iaload, 1) := by decide +kernel
theorem dX12_isRowAt_50 : decode cX12_isRowAt 50 = .ok (.if_icmp .ne 5, 3) := by decide +kernel
theorem dX12_isRowAt_53 : decode cX12_isRowAt 53 = .ok (.iconst 0, 1) := by decide +kernel
theorem dX12_isRowAt_54 : decode cX12_isRowAt 54 = .ok (.ireturn, 1) := by decide +kernel
theorem dX12_isRowAt_55 : decode cX12_isRowAt 55 = .ok (.iinc 4 1, 3) := by decide +kernel
theorem dX12_isRowAt_58 : decode cX12_isRowAt 58 = .ok (.goto (-31), 3) := by decide +kernel
theorem dX12_isRowAt_61 : decode cX12_isRowAt 61 = .ok (.iinc 3 1, 3) := by decide +kernel
theorem dX12_isRowAt_64 : decode cX12_isRowAt 64 = .ok (.goto (-62), 3) := by decide +kernel
theorem dX12_isRowAt_67 : decode cX12_isRowAt 67 = .ok (.iconst 1, 1) := by decide +kernel
theorem dX12_isRowAt_68 : decode cX12_isRowAt 68 = .ok (.ireturn, 1) := by decide +kernel
theorem dX12_isWhole_0 : decode cX12_isWhole 0 = .ok (.iload_n 1, 1) := by decide +kernel
theorem dX12_isWhole_1 : decode cX12_isWhole 1 = .ok (.iconst 1, 1) := by decide +kernel
theorem dX12_isWhole_2 : decode cX12_isWhole 2 = .ok (.if_icmp .ge 5, 3) := by decide +kernel
theorem dX12_isWhole_5 : decode cX12_isWhole 5 = .ok (.iconst 0, 1) := by decide +kernel
theorem dX12_isWhole_6 : decode cX12_isWhole 6 = .ok (.ireturn, 1) := by decide +kernel
theorem dX12_isWhole_7 : decode cX12_isWhole 7 = .ok (.bipush 19, 2) := by decide +kernel
theorem dX12_isWhole_9 : decode cX12_isWhole 9 = .ok (.istore_n 2, 1) := by decide +kernel
theorem dX12_isWhole_10 : decode cX12_isWhole 10 = .ok (.iconst 0, 1) := by decide +kernel
theorem dX12_isWhole_11 : decode cX12_isWhole 11 = .ok (.istore_n 3, 1) := by decide +kernel
theorem dX12_isWhole_12 : decode cX12_isWhole 12 = .ok (.iload_n 3, 1) := by decide +kernel
theorem dX12_isWhole_13 : decode cX12_isWhole 13 = .ok (.iload_n 1, 1) := by decide +kernel
theorem dX12_isWhole_14 : decode cX12_isWhole 14 = .ok (.iconst 1, 1) := by decide +kernel
theorem dX12_isWhole_15 : decode cX12_isWhole 15 = .ok (.isub, 1) := by decide +kernel
theorem dX12_isWhole_16 : decode cX12_isWhole 16 = .ok (.if_icmp .ge 24, 3) := by decide +kernel
theorem dX12_isWhole_19 : decode cX12_isWhole 19 = .ok (.iconst 3, 1) := by decide +kernel
theorem dX12_isWhole_20 : decode cX12_isWhole 20 = .ok (.iload_n 2, 1) := by decide +kernel
theorem dX12_isWhole_21 : decode cX12_isWhole 21 = .ok (.imul, 1) := by decide +kernel
theorem dX12_isWhole_22 : decode cX12_isWhole 22 = .ok (.aload_n 0, 1) := by decide +kernel
theorem dX12_isWhole_23 : decode cX12_isWhole 23 = .ok (.getfield 7, 3) := by decide +kernel
theorem dX12_isWhole_26 : decode cX12_isWhole 26 = .ok (.iload_n 3, 1) := by decide +kernel
theorem dX12_isWhole_27 : decode cX12_isWhole 27 = .ok (.iaload, 1) := by decide +kernel
theorem dX12_isWhole_28 : decode cX12_isWhole 28 = .ok (.iadd, 1) := by decide +kernel
theorem dX12_isWhole_29 : decode cX12_isWhole 29 = .ok (.sipush 233, 3) := by decide +kernel
theorem dX12_isWhole_32 : decode cX12_isWhole 32 = .ok (.irem, 1) := by decide +kernel
theorem dX12_isWhole_33 : decode cX12_isWhole 33 = .ok (.istore_n 2, 1) := by decide +kernel
theorem dX12_isWhole_34 : decode cX12_isWhole 34 = .ok (.iinc 3 1, 3) := by decide +kernel
theorem dX12_isWhole_37 : decode cX12_isWhole 37 = .ok (.goto (-25), 3) := by decide +kernel
theorem dX12_isWhole_40 : decode cX12_isWhole 40 = .ok (.aload_n 0, 1) := by decide +kernel
theorem dX12_isWhole_41 : decode cX12_isWhole 41 = .ok (.getfield 7, 3) := by decide +kernel
theorem dX12_isWhole_44 : decode cX12_isWhole 44 = .ok (.iload_n 1, 1) := by decide +kernel
theorem dX12_isWhole_45 : decode cX12_isWhole 45 = .ok (.iconst 1, 1) := by decide +kernel
theorem dX12_isWhole_46 : decode cX12_isWhole 46 = .ok (.isub, 1) := by decide +kernel
theorem dX12_isWhole_47 : decode cX12_isWhole 47 = .ok (.iaload, 1) := by decide +kernel
theorem dX12_isWhole_48 : decode cX12_isWhole 48 = .ok (.iload_n 2, 1) := by decide +kernel
theorem dX12_isWhole_49 : decode cX12_isWhole 49 = .ok (.if_icmp .eq 5, 3) := by decide +kernel
theorem dX12_isWhole_52 : decode cX12_isWhole 52 = .ok (.iconst 0, 1) := by decide +kernel
theorem dX12_isWhole_53 : decode cX12_isWhole 53 = .ok (.ireturn, 1) := by decide +kernel
theorem dX12_isWhole_54 : decode cX12_isWhole 54 = .ok (.aload_n 0, 1) := by decide +kernel
theorem dX12_isWhole_55 : decode cX12_isWhole 55 = .ok (.getfield 95, 3) := by decide +kernel
theorem dX12_isWhole_58 : decode cX12_isWhole 58 = .ok (.aload_n 0, 1) := by decide +kernel
theorem dX12_isWhole_59 : decode cX12_isWhole 59 = .ok (.getfield 48, 3) := by decide +kernel
theorem dX12_isWhole_62 : decode cX12_isWhole 62 = .ok (.iaload, 1) := by decide +kernel
theorem dX12_isWhole_63 : decode cX12_isWhole 63 = .ok (.istore_n 3, 1) := by decide +kernel
theorem dX12_isWhole_64 : decode cX12_isWhole 64 = .ok (.iconst 0, 1) := by decide +kernel
theorem dX12_isWhole_65 : decode cX12_isWhole 65 = .ok (.istore 4, 2) := by decide +kernel
theorem dX12_isWhole_67 : decode cX12_isWhole 67 = .ok (.iload 4, 2) := by decide +kernel
theorem dX12_isWhole_69 : decode cX12_isWhole 69 = .ok (.aload_n 0, 1) := by decide +kernel
theorem dX12_isWhole_70 : decode cX12_isWhole 70 = .ok (.getfield 95, 3) := by decide +kernel
theorem dX12_isWhole_73 : decode cX12_isWhole 73 = .ok (.aload_n 0, 1) := by decide +kernel
theorem dX12_isWhole_74 : decode cX12_isWhole 74 = .ok (.getfield 48, 3) := by decide +kernel
theorem dX12_isWhole_77 : decode cX12_isWhole 77 = .ok (.iaload, 1) := by decide +kernel
theorem dX12_isWhole_78 : decode cX12_isWhole 78 = .ok (.if_icmp .ge 33, 3) := by decide +kernel
theorem dX12_isWhole_81 : decode cX12_isWhole 81 = .ok (.iload 4, 2) := by decide +kernel
theorem dX12_isWhole_83 : decode cX12_isWhole 83 = .ok (.iload_n 1, 1) := by decide +kernel
theorem dX12_isWhole_84 : decode cX12_isWhole 84 = .ok (.iconst 1, 1) := by decide +kernel
theorem dX12_isWhole_85 : decode cX12_isWhole 85 = .ok (.isub, 1) := by decide +kernel
theorem dX12_isWhole_86 : decode cX12_isWhole 86 = .ok (.if_icmp .ge 17, 3) := by decide +kernel
theorem dX12_isWhole_89 : decode cX12_isWhole 89 = .ok (.aload_n 0, 1) := by decide +kernel
theorem dX12_isWhole_90 : decode cX12_isWhole 90 = .ok (.aload_n 0, 1) := by decide +kernel
theorem dX12_isWhole_91 : decode cX12_isWhole 91 = .ok (.getfield 7, 3) := by decide +kernel
theorem dX12_isWhole_94 : decode cX12_isWhole 94 = .ok (.iload 4, 2) := by decide +kernel
theorem dX12_isWhole_96 : decode cX12_isWhole 96 = .ok (.iaload, 1) := by decide +kernel
theorem dX12_isWhole_97 : decode cX12_isWhole 97 = .ok (.invokevirtual 594, 3) := by decide +kernel
theorem dX12_isWhole_100 : decode cX12_isWhole 100 = .ok (.ifCond .ne 5, 3) := by decide +kernel
theorem dX12_isWhole_103 : decode cX12_isWhole 103 = .ok (.iconst 0, 1) := by decide +kernel
theorem dX12_isWhole_104 : decode cX12_isWhole 104 = .ok (.ireturn, 1) := by decide +kernel
theorem dX12_isWhole_105 : decode cX12_isWhole 105 = .ok (.iinc 4 1, 3) := by decide +kernel
theorem dX12_isWhole_108 : decode cX12_isWhole 108 = .ok (.goto (-41), 3) := by decide +kernel
theorem dX12_isWhole_111 : decode cX12_isWhole 111 = .ok (.iconst 0, 1) := by decide +kernel
theorem dX12_isWhole_112 : decode cX12_isWhole 112 = .ok (.istore 4, 2) := by decide +kernel
theorem dX12_isWhole_114 : decode cX12_isWhole 114 = .ok (.iload 4, 2) := by decide +kernel
theorem dX12_isWhole_116 : decode cX12_isWhole 116 = .ok (.aload_n 0, 1) := by decide +kernel
theorem dX12_isWhole_117 : decode cX12_isWhole 117 = .ok (.getfield 80, 3) := by decide +kernel
theorem dX12_isWhole_120 : decode cX12_isWhole 120 = .ok (.aload_n 0, 1) := by decide +kernel
theorem dX12_isWhole_121 : decode cX12_isWhole 121 = .ok (.getfield 48, 3) := by decide +kernel
theorem dX12_isWhole_124 : decode cX12_isWhole 124 = .ok (.iaload, 1) := by decide +kernel
theorem dX12_isWhole_125 : decode cX12_isWhole 125 = .ok (.if_icmp .ge 89, 3) := by decide +kernel
theorem dX12_isWhole_128 : decode cX12_isWhole 128 = .ok (.iload_n 3, 1) := by decide +kernel
theorem dX12_isWhole_129 : decode cX12_isWhole 129 = .ok (.iconst 2, 1) := by decide +kernel
theorem dX12_isWhole_130 : decode cX12_isWhole 130 = .ok (.iadd, 1) := by decide +kernel
theorem dX12_isWhole_131 : decode cX12_isWhole 131 = .ok (.iload_n 1, 1) := by decide +kernel
theorem dX12_isWhole_132 : decode cX12_isWhole 132 = .ok (.iconst 1, 1) := by decide +kernel
theorem dX12_isWhole_133 : decode cX12_isWhole 133 = .ok (.isub, 1) := by decide +kernel
theorem dX12_isWhole_134 : decode cX12_isWhole 134 = .ok (.if_icmp .gt 29, 3) := by decide +kernel
theorem dX12_isWhole_137 : decode cX12_isWhole 137 = .ok (.aload_n 0, 1) := by decide +kernel
theorem dX12_isWhole_138 : decode cX12_isWhole 138 = .ok (.aload_n 0, 1) := by decide +kernel
theorem dX12_isWhole_139 : decode cX12_isWhole 139 = .ok (.getfield 7, 3) := by decide +kernel
theorem dX12_isWhole_142 : decode cX12_isWhole 142 = .ok (.iload_n 3, 1) := by decide +kernel
theorem dX12_isWhole_143 : decode cX12_isWhole 143 = .ok (.iaload, 1) := by decide +kernel
theorem dX12_isWhole_144 : decode cX12_isWhole 144 = .ok (.invokevirtual 634, 3) := by decide +kernel
theorem dX12_isWhole_147 : decode cX12_isWhole 147 = .ok (.ifCond .eq 16, 3) := by decide +kernel
theorem dX12_isWhole_150 : decode cX12_isWhole 150 = .ok (.aload_n 0, 1) := by decide +kernel
theorem dX12_isWhole_151 : decode cX12_isWhole 151 = .ok (.getfield 7, 3) := by decide +kernel
theorem dX12_isWhole_154 : decode cX12_isWhole 154 = .ok (.iload_n 3, 1) := by decide +kernel
theorem dX12_isWhole_155 : decode cX12_isWhole 155 = .ok (.iconst 1, 1) := by decide +kernel
theorem dX12_isWhole_156 : decode cX12_isWhole 156 = .ok (.iadd, 1) := by decide +kernel
theorem dX12_isWhole_157 : decode cX12_isWhole 157 = .ok (.iaload, 1) := by decide +kernel
theorem dX12_isWhole_158 : decode cX12_isWhole 158 = .ok (.bipush 6, 2) := by decide +kernel
theorem dX12_isWhole_160 : decode cX12_isWhole 160 = .ok (.if_icmp .le 5, 3) := by decide +kernel
theorem dX12_isWhole_163 : decode cX12_isWhole 163 = .ok (.iconst 0, 1) := by decide +kernel
theorem dX12_isWhole_164 : decode cX12_isWhole 164 = .ok (.ireturn, 1) := by decide +kernel
theorem dX12_isWhole_165 : decode cX12_isWhole 165 = .ok (.aload_n 0, 1) := by decide +kernel
theorem dX12_isWhole_166 : decode cX12_isWhole 166 = .ok (.getfield 7, 3) := by decide +kernel
theorem dX12_isWhole_169 : decode cX12_isWhole 169 = .ok (.iload_n 3, 1) := by decide +kernel
theorem dX12_isWhole_170 : decode cX12_isWhole 170 = .ok (.iconst 1, 1) := by decide +kernel
theorem dX12_isWhole_171 : decode cX12_isWhole 171 = .ok (.iadd, 1) := by decide +kernel
theorem dX12_isWhole_172 : decode cX12_isWhole 172 = .ok (.iaload, 1) := by decide +kernel
theorem dX12_isWhole_173 : decode cX12_isWhole 173 = .ok (.istore 5, 2) := by decide +kernel
theorem dX12_isWhole_175 : decode cX12_isWhole 175 = .ok (.iload_n 3, 1) := by decide +kernel
theorem dX12_isWhole_176 : decode cX12_isWhole 176 = .ok (.iconst 2, 1) := by decide +kernel
theorem dX12_isWhole_177 : decode cX12_isWhole 177 = .ok (.iadd, 1) := by decide +kernel
theorem dX12_isWhole_178 : decode cX12_isWhole 178 = .ok (.iload 5, 2) := by decide +kernel
theorem dX12_isWhole_180 : decode cX12_isWhole 180 = .ok (.iadd, 1) := by decide +kernel
theorem dX12_isWhole_181 : decode cX12_isWhole 181 = .ok (.iload_n 1, 1) := by decide +kernel
theorem dX12_isWhole_182 : decode cX12_isWhole 182 = .ok (.iconst 1, 1) := by decide +kernel
theorem dX12_isWhole_183 : decode cX12_isWhole 183 = .ok (.isub, 1) := by decide +kernel
theorem dX12_isWhole_184 : decode cX12_isWhole 184 = .ok (.if_icmp .gt 15, 3) := by decide +kernel
theorem dX12_isWhole_187 : decode cX12_isWhole 187 = .ok (.aload_n 0, 1) := by decide +kernel
theorem dX12_isWhole_188 : decode cX12_isWhole 188 = .ok (.iload_n 3, 1) := by decide +kernel
theorem dX12_isWhole_189 : decode cX12_isWhole 189 = .ok (.iconst 2, 1) := by decide +kernel
theorem dX12_isWhole_190 : decode cX12_isWhole 190 = .ok (.iadd, 1) := by decide +kernel
theorem dX12_isWhole_191 : decode cX12_isWhole 191 = .ok (.iload 5, 2) := by decide +kernel
theorem dX12_isWhole_193 : decode cX12_isWhole 193 = .ok (.invokevirtual 637, 3) := by decide +kernel
theorem dX12_isWhole_196 : decode cX12_isWhole 196 = .ok (.ifCond .ne 5, 3) := by decide +kernel
theorem dX12_isWhole_199 : decode cX12_isWhole 199 = .ok (.iconst 0, 1) := by decide +kernel
theorem dX12_isWhole_200 : decode cX12_isWhole 200 = .ok (.ireturn, 1) := by decide +kernel
theorem dX12_isWhole_201 : decode cX12_isWhole 201 = .ok (.iload_n 3, 1) := by decide +kernel
theorem dX12_isWhole_202 : decode cX12_isWhole 202 = .ok (.iconst 2, 1) := by decide +kernel
theorem dX12_isWhole_203 : decode cX12_isWhole 203 = .ok (.iload 5, 2) := by decide +kernel
theorem dX12_isWhole_205 : decode cX12_isWhole 205 = .ok (.iadd, 1) := by decide +kernel
theorem dX12_isWhole_206 : decode cX12_isWhole 206 = .ok (.iadd, 1) := by decide +kernel
theorem dX12_isWhole_207 : decode cX12_isWhole 207 = .ok (.istore_n 3, 1) := by decide +kernel
theorem dX12_isWhole_208 : decode cX12_isWhole 208 = .ok (.iinc 4 1, 3) := by decide +kernel
theorem dX12_isWhole_211 : decode cX12_isWhole 211 = .ok (.goto (-97), 3) := by decide +kernel
theorem dX12_isWhole_214 : decode cX12_isWhole 214 = .ok (.iload_n 3, 1) := by decide +kernel
theorem dX12_isWhole_215 : decode cX12_isWhole 215 = .ok (.iload_n 1, 1) := by decide +kernel
theorem dX12_isWhole_216 : decode cX12_isWhole 216 = .ok (.iconst 1, 1) := by decide +kernel
theorem dX12_isWhole_217 : decode cX12_isWhole 217 = .ok (.isub, 1) := by decide +kernel
theorem dX12_isWhole_218 : decode cX12_isWhole 218 = .ok (.if_icmp .ne 7, 3) := by decide +kernel
theorem dX12_isWhole_221 : decode cX12_isWhole 221 = .ok (.iconst 1, 1) := by decide +kernel
theorem dX12_isWhole_222 : decode cX12_isWhole 222 = .ok (.goto 4, 3) := by decide +kernel
theorem dX12_isWhole_225 : decode cX12_isWhole 225 = .ok (.iconst 0, 1) := by decide +kernel
theorem dX12_isWhole_226 : decode cX12_isWhole 226 = .ok (.ireturn, 1) := by decide +kernel
