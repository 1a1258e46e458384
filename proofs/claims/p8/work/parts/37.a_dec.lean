theorem dX12_add_0 : decode cX12_add 0 = .ok (.aload_n 0, 1) := by decide +kernel
theorem dX12_add_1 : decode cX12_add 1 = .ok (.getfield 146, 3) := by decide +kernel
theorem dX12_add_4 : decode cX12_add 4 = .ok (.sipush 1600, 3) := by decide +kernel
theorem dX12_add_7 : decode cX12_add 7 = .ok (.aload_n 0, 1) := by decide +kernel
theorem dX12_add_8 : decode cX12_add 8 = .ok (.getfield 155, 3) := by decide +kernel
theorem dX12_add_11 : decode cX12_add 11 = .ok (.imul, 1) := by decide +kernel
theorem dX12_add_12 : decode cX12_add 12 = .ok (.aload_n 0, 1) := by decide +kernel
theorem dX12_add_13 : decode cX12_add 13 = .ok (.getfield 152, 3) := by decide +kernel
theorem dX12_add_16 : decode cX12_add 16 = .ok (.iadd, 1) := by decide +kernel
theorem dX12_add_17 : decode cX12_add 17 = .ok (.iload_n 1, 1) := by decide +kernel
theorem dX12_add_18 : decode cX12_add 18 = .ok (.iastore, 1) := by decide +kernel
theorem dX12_add_19 : decode cX12_add 19 = .ok (.aload_n 0, 1) := by decide +kernel
theorem dX12_add_20 : decode cX12_add 20 = .ok (.getfield 149, 3) := by decide +kernel
theorem dX12_add_23 : decode cX12_add 23 = .ok (.sipush 1600, 3) := by decide +kernel
theorem dX12_add_26 : decode cX12_add 26 = .ok (.aload_n 0, 1) := by decide +kernel
theorem dX12_add_27 : decode cX12_add 27 = .ok (.getfield 155, 3) := by decide +kernel
theorem dX12_add_30 : decode cX12_add 30 = .ok (.imul, 1) := by decide +kernel
theorem dX12_add_31 : decode cX12_add 31 = .ok (.aload_n 0, 1) := by decide +kernel
theorem dX12_add_32 : decode cX12_add 32 = .ok (.getfield 152, 3) := by decide +kernel
theorem dX12_add_35 : decode cX12_add 35 = .ok (.iadd, 1) := by decide +kernel
theorem dX12_add_36 : decode cX12_add 36 = .ok (.iload_n 2, 1) := by decide +kernel
theorem dX12_add_37 : decode cX12_add 37 = .ok (.iastore, 1) := by decide +kernel
theorem dX12_add_38 : decode cX12_add 38 = .ok (.aload_n 0, 1) := by decide +kernel
theorem dX12_add_39 : decode cX12_add 39 = .ok (.dup, 1) := by decide +kernel
theorem dX12_add_40 : decode cX12_add 40 = .ok (.getfield 152, 3) := by decide +kernel
theorem dX12_add_43 : decode cX12_add 43 = .ok (.iconst 1, 1) := by decide +kernel
theorem dX12_add_44 : decode cX12_add 44 = .ok (.iadd, 1) := by decide +kernel
theorem dX12_add_45 : decode cX12_add 45 = .ok (.putfield 152, 3) := by decide +kernel
theorem dX12_add_48 : decode cX12_add 48 = .ok (.return_, 1) := by decide +kernel
theorem dX12_rank_0 : decode cX12_rank 0 = .ok (.iload_n 0, 1) := by decide +kernel
theorem dX12_rank_1 : decode cX12_rank 1 = .ok (.bipush 21, 2) := by decide +kernel
theorem dX12_rank_3 : decode cX12_rank 3 = .ok (.if_icmp .ne 7, 3) := by decide +kernel
theorem dX12_rank_6 : decode cX12_rank 6 = .ok (.iconst 1, 1) := by decide +kernel
theorem dX12_rank_7 : decode cX12_rank 7 = .ok (.goto 63, 3) := by decide +kernel
theorem dX12_rank_10 : decode cX12_rank 10 = .ok (.iload_n 0, 1) := by decide +kernel
theorem dX12_rank_11 : decode cX12_rank 11 = .ok (.bipush 20, 2) := by decide +kernel
theorem dX12_rank_13 : decode cX12_rank 13 = .ok (.if_icmp .ne 7, 3) := by decide +kernel
theorem dX12_rank_16 : decode cX12_rank 16 = .ok (.iconst 2, 1) := by decide +kernel
theorem dX12_rank_17 : decode cX12_rank 17 = .ok (.goto 53, 3) := by decide +kernel
theorem dX12_rank_20 : decode cX12_rank 20 = .ok (.iload_n 0, 1) := by decide +kernel
theorem dX12_rank_21 : decode cX12_rank 21 = .ok (.bipush 22, 2) := by decide +kernel
theorem dX12_rank_23 : decode cX12_rank 23 = .ok (.if_icmp .ne 7, 3) := by decide +kernel
theorem dX12_rank_26 : decode cX12_rank 26 = .ok (.iconst 3, 1) := by decide +kernel
theorem dX12_rank_27 : decode cX12_rank 27 = .ok (.goto 43, 3) := by decide +kernel
theorem dX12_rank_30 : decode cX12_rank 30 = .ok (.iload_n 0, 1) := by decide +kernel
theorem dX12_rank_31 : decode cX12_rank 31 = .ok (.bipush 17, 2) := by decide +kernel
theorem dX12_rank_33 : decode cX12_rank 33 = .ok (.if_icmp .eq 15, 3) := by decide +kernel
theorem dX12_rank_36 : decode cX12_rank 36 = .ok (.iload_n 0, 1) := by decide +kernel
theorem dX12_rank_37 : decode cX12_rank 37 = .ok (.bipush 18, 2) := by decide +kernel
theorem dX12_rank_39 : decode cX12_rank 39 = .ok (.if_icmp .eq 9, 3) := by decide +kernel
theorem dX12_rank_42 : decode cX12_rank 42 = .ok (.iload_n 0, 1) := by decide +kernel
theorem dX12_rank_43 : decode cX12_rank 43 = .ok (.bipush 19, 2) := by decide +kernel
theorem dX12_rank_45 : decode cX12_rank 45 = .ok (.if_icmp .ne 7, 3) := by decide +kernel
theorem dX12_rank_48 : decode cX12_rank 48 = .ok (.iconst 4, 1) := by decide +kernel
theorem dX12_rank_49 : decode cX12_rank 49 = .ok (.goto 21, 3) := by decide +kernel
theorem dX12_rank_52 : decode cX12_rank 52 = .ok (.iload_n 0, 1) := by decide +kernel
theorem dX12_rank_53 : decode cX12_rank 53 = .ok (.bipush 10, 2) := by decide +kernel
theorem dX12_rank_55 : decode cX12_rank 55 = .ok (.if_icmp .eq 9, 3) := by decide +kernel
theorem dX12_rank_58 : decode cX12_rank 58 = .ok (.iload_n 0, 1) := by decide +kernel
theorem dX12_rank_59 : decode cX12_rank 59 = .ok (.bipush 11, 2) := by decide +kernel
theorem dX12_rank_61 : decode cX12_rank 61 = .ok (.if_icmp .ne 7, 3) := by decide +kernel
theorem dX12_rank_64 : decode cX12_rank 64 = .ok (.iconst 5, 1) := by decide +kernel
theorem dX12_rank_65 : decode cX12_rank 65 = .ok (.goto 5, 3) := by decide +kernel
theorem dX12_rank_68 : decode cX12_rank 68 = .ok (.bipush 6, 2) := by decide +kernel
theorem dX12_rank_70 : decode cX12_rank 70 = .ok (.ireturn, 1) := by decide +kernel
theorem dX12_holdsBack_0 : decode cX12_holdsBack 0 = .ok (.aload_n 0, 1) := by decide +kernel
theorem dX12_holdsBack_1 : decode cX12_holdsBack 1 = .ok (.getfield 179, 3) := by decide +kernel
theorem dX12_holdsBack_4 : decode cX12_holdsBack 4 = .ok (.aload_n 0, 1) := by decide +kernel
theorem dX12_holdsBack_5 : decode cX12_holdsBack 5 = .ok (.getfield 182, 3) := by decide +kernel
theorem dX12_holdsBack_8 : decode cX12_holdsBack 8 = .ok (.iload_n 1, 1) := by decide +kernel
theorem dX12_holdsBack_9 : decode cX12_holdsBack 9 = .ok (.iastore, 1) := by decide +kernel
theorem dX12_holdsBack_10 : decode cX12_holdsBack 10 = .ok (.aload_n 0, 1) := by decide +kernel
theorem dX12_holdsBack_11 : decode cX12_holdsBack 11 = .ok (.dup, 1) := by decide +kernel
theorem dX12_holdsBack_12 : decode cX12_holdsBack 12 = .ok (.getfield 182, 3) := by decide +kernel
theorem dX12_holdsBack_15 : decode cX12_holdsBack 15 = .ok (.iconst 1, 1) := by decide +kernel
theorem dX12_holdsBack_16 : decode cX12_holdsBack 16 = .ok (.iadd, 1) := by decide +kernel
theorem dX12_holdsBack_17 : decode cX12_holdsBack 17 = .ok (.putfield 182, 3) := by decide +kernel
theorem dX12_holdsBack_20 : decode cX12_holdsBack 20 = .ok (.return_, 1) := by decide +kernel
theorem dX12_pushes_0 : decode cX12_pushes 0 = .ok (.aload_n 0, 1) := by decide +kernel
theorem dX12_pushes_1 : decode cX12_pushes 1 = .ok (.getfield 158, 3) := by decide +kernel
theorem dX12_pushes_4 : decode cX12_pushes 4 = .ok (.aload_n 0, 1) := by decide +kernel
theorem dX12_pushes_5 : decode cX12_pushes 5 = .ok (.getfield 173, 3) := by decide +kernel
theorem dX12_pushes_8 : decode cX12_pushes 8 = .ok (.iload_n 1, 1) := by decide +kernel
theorem dX12_pushes_9 : decode cX12_pushes 9 = .ok (.iastore, 1) := by decide +kernel
theorem dX12_pushes_10 : decode cX12_pushes 10 = .ok (.aload_n 0, 1) := by decide +kernel
theorem dX12_pushes_11 : decode cX12_pushes 11 = .ok (.getfield 161, 3) := by decide +kernel
theorem dX12_pushes_14 : decode cX12_pushes 14 = .ok (.aload_n 0, 1) := by decide +kernel
theorem dX12_pushes_15 : decode cX12_pushes 15 = .ok (.getfield 173, 3) := by decide +kernel
theorem dX12_pushes_18 : decode cX12_pushes 18 = .ok (.iconst 0, 1) := by decide +kernel
theorem dX12_pushes_19 : decode cX12_pushes 19 = .ok (.iastore, 1) := by decide +kernel
theorem dX12_pushes_20 : decode cX12_pushes 20 = .ok (.aload_n 0, 1) := by decide +kernel
theorem dX12_pushes_21 : decode cX12_pushes 21 = .ok (.getfield 164, 3) := by decide +kernel
theorem dX12_pushes_24 : decode cX12_pushes 24 = .ok (.aload_n 0, 1) := by decide +kernel
theorem dX12_pushes_25 : decode cX12_pushes 25 = .ok (.getfield 173, 3) := by decide +kernel
theorem dX12_pushes_28 : decode cX12_pushes 28 = .ok (.iconst 1, 1) := by decide +kernel
theorem dX12_pushes_29 : decode cX12_pushes 29 = .ok (.bastore, 1) := by decide +kernel
theorem dX12_pushes_30 : decode cX12_pushes 30 = .ok (.aload_n 0, 1) := by decide +kernel
theorem dX12_pushes_31 : decode cX12_pushes 31 = .ok (.getfield 170, 3) := by decide +kernel
theorem dX12_pushes_34 : decode cX12_pushes 34 = .ok (.aload_n 0, 1) := by decide +kernel
theorem dX12_pushes_35 : decode cX12_pushes 35 = .ok (.getfield 173, 3) := by decide +kernel
theorem dX12_pushes_38 : decode cX12_pushes 38 = .ok (.aload_n 0, 1) := by decide +kernel
theorem dX12_pushes_39 : decode cX12_pushes 39 = .ok (.getfield 182, 3) := by decide +kernel
theorem dX12_pushes_42 : decode cX12_pushes 42 = .ok (.iastore, 1) := by decide +kernel
theorem dX12_pushes_43 : decode cX12_pushes 43 = .ok (.aload_n 0, 1) := by decide +kernel
theorem dX12_pushes_44 : decode cX12_pushes 44 = .ok (.dup, 1) := by decide +kernel
theorem dX12_pushes_45 : decode cX12_pushes 45 = .ok (.getfield 173, 3) := by decide +kernel
theorem dX12_pushes_48 : decode cX12_pushes 48 = .ok (.iconst 1, 1) := by decide +kernel
theorem dX12_pushes_49 : decode cX12_pushes 49 = .ok (.iadd, 1) := by decide +kernel
theorem dX12_pushes_50 : decode cX12_pushes 50 = .ok (.putfield 173, 3) := by decide +kernel
theorem dX12_pushes_53 : decode cX12_pushes 53 = .ok (.return_, 1) := by decide +kernel
theorem dX12_isTest_0 : decode cX12_isTest 0 = .ok (.iload_n 0, 1) := by decide +kernel
theorem dX12_isTest_1 : decode cX12_isTest 1 = .ok (.iconst 1, 1) := by decide +kernel
theorem dX12_isTest_2 : decode cX12_isTest 2 = .ok (.if_icmp .eq 8, 3) := by decide +kernel
theorem dX12_isTest_5 : decode cX12_isTest 5 = .ok (.iload_n 0, 1) := by decide +kernel
theorem dX12_isTest_6 : decode cX12_isTest 6 = .ok (.iconst 5, 1) := by decide +kernel
theorem dX12_isTest_7 : decode cX12_isTest 7 = .ok (.if_icmp .ne 7, 3) := by decide +kernel
theorem dX12_isTest_10 : decode cX12_isTest 10 = .ok (.iconst 1, 1) := by decide +kernel
theorem dX12_isTest_11 : decode cX12_isTest 11 = .ok (.goto 4, 3) := by decide +kernel
theorem dX12_isTest_14 : decode cX12_isTest 14 = .ok (.iconst 0, 1) := by decide +kernel
theorem dX12_isTest_15 : decode cX12_isTest 15 = .ok (.ireturn, 1) := by decide +kernel
theorem dX12_writes_0 : decode cX12_writes 0 = .ok (.aload_n 0, 1) := by decide +kernel
theorem dX12_writes_1 : decode cX12_writes 1 = .ok (.getfield 265, 3) := by decide +kernel
theorem dX12_writes_4 : decode cX12_writes 4 = .ok (.aload_n 0, 1) := by decide +kernel
theorem dX12_writes_5 : decode cX12_writes 5 = .ok (.getfield 268, 3) := by decide +kernel
theorem dX12_writes_8 : decode cX12_writes 8 = .ok (.iload_n 1, 1) := by decide +kernel
theorem dX12_writes_9 : decode cX12_writes 9 = .ok (.sipush 255, 3) := by decide +kernel
theorem dX12_writes_12 : decode cX12_writes 12 = .ok (.iand, 1) := by decide +kernel
theorem dX12_writes_13 : decode cX12_writes 13 = .ok (.iastore, 1) := by decide +kernel
theorem dX12_writes_14 : decode cX12_writes 14 = .ok (.aload_n 0, 1) := by decide +kernel
theorem dX12_writes_15 : decode cX12_writes 15 = .ok (.dup, 1) := by decide +kernel
theorem dX12_writes_16 : decode cX12_writes 16 = .ok (.getfield 268, 3) := by decide +kernel
theorem dX12_writes_19 : decode cX12_writes 19 = .ok (.iconst 1, 1) := by decide +kernel
theorem dX12_writes_20 : decode cX12_writes 20 = .ok (.iadd, 1) := by decide +kernel
theorem dX12_writes_21 : decode cX12_writes 21 = .ok (.putfield 268, 3) := by decide +kernel
theorem dX12_writes_24 : decode cX12_writes 24 = .ok (.return_, 1) := by decide +kernel
theorem dX12_image_0 : decode cX12_image 0 = .ok (.aload_n 0, 1) := by decide +kernel
theorem dX12_image_1 : decode cX12_image 1 = .ok (.iconst 0, 1) := by decide +kernel
theorem dX12_image_2 : decode cX12_image 2 = .ok (.putfield 268, 3) := by decide +kernel
theorem dX12_image_5 : decode cX12_image 5 = .ok (.iconst 0, 1) := by decide +kernel
theorem dX12_image_6 : decode cX12_image 6 = .ok (.istore_n 1, 1) := by decide +kernel
theorem dX12_image_7 : decode cX12_image 7 = .ok (.iload_n 1, 1) := by decide +kernel
theorem dX12_image_8 : decode cX12_image 8 = .ok (.aload_n 0, 1) := by decide +kernel
theorem dX12_image_9 : decode cX12_image 9 = .ok (.getfield 95, 3) := by decide +kernel
theorem dX12_image_12 : decode cX12_image 12 = .ok (.aload_n 0, 1) := by decide +kernel
theorem dX12_image_13 : decode cX12_image 13 = .ok (.getfield 48, 3) := by decide +kernel
theorem dX12_image_16 : decode cX12_image 16 = .ok (.iaload, 1) := by decide +kernel
theorem dX12_image_17 : decode cX12_image 17 = .ok (.if_icmp .ge 18, 3) := by decide +kernel
theorem dX12_image_20 : decode cX12_image 20 = .ok (.aload_n 0, 1) := by decide +kernel
theorem dX12_image_21 : decode cX12_image 21 = .ok (.aload_n 0, 1) := by decide +kernel
theorem dX12_image_22 : decode cX12_image 22 = .ok (.iload_n 1, 1) := by decide +kernel
theorem dX12_image_23 : decode cX12_image 23 = .ok (.invokevirtual 520, 3) := by decide +kernel
theorem dX12_image_26 : decode cX12_image 26 = .ok (.invokevirtual 631, 3) := by decide +kernel
theorem dX12_image_29 : decode cX12_image 29 = .ok (.iinc 1 1, 3) := by decide +kernel
theorem dX12_image_32 : decode cX12_image 32 = .ok (.goto (-25), 3) := by decide +kernel
theorem dX12_image_35 : decode cX12_image 35 = .ok (.iconst 0, 1) := by decide +kernel
theorem dX12_image_36 : decode cX12_image 36 = .ok (.istore_n 1, 1) := by decide +kernel
theorem dX12_image_37 : decode cX12_image 37 = .ok (.iload_n 1, 1) := by decide +kernel
theorem dX12_image_38 : decode cX12_image 38 = .ok (.aload_n 0, 1) := by decide +kernel
theorem dX12_image_39 : decode cX12_image 39 = .ok (.getfield 80, 3) := by decide +kernel
theorem dX12_image_42 : decode cX12_image 42 = .ok (.aload_n 0, 1) := by decide +kernel
theorem dX12_image_43 : decode cX12_image 43 = .ok (.getfield 48, 3) := by decide +kernel
theorem dX12_image_46 : decode cX12_image 46 = .ok (.iaload, 1) := by decide +kernel
theorem dX12_image_47 : decode cX12_image 47 = .ok (.if_icmp .ge 78, 3) := by decide +kernel
theorem dX12_image_50 : decode cX12_image 50 = .ok (.aload_n 0, 1) := by decide +kernel
theorem dX12_image_51 : decode cX12_image 51 = .ok (.aload_n 0, 1) := by decide +kernel
theorem dX12_image_52 : decode cX12_image 52 = .ok (.getfield 86, 3) := by decide +kernel
theorem dX12_image_55 : decode cX12_image 55 = .ok (.aload_n 0, 1) := by decide +kernel
theorem dX12_image_56 : decode cX12_image 56 = .ok (.iload_n 1, 1) := by decide +kernel
theorem dX12_image_57 : decode cX12_image 57 = .ok (.invokevirtual 484, 3) := by decide +kernel
theorem dX12_image_60 : decode cX12_image 60 = .ok (.iaload, 1) := by decide +kernel
theorem dX12_image_61 : decode cX12_image 61 = .ok (.invokevirtual 631, 3) := by decide +kernel
theorem dX12_image_64 : decode cX12_image 64 = .ok (.aload_n 0, 1) := by decide +kernel
theorem dX12_image_65 : decode cX12_image 65 = .ok (.aload_n 0, 1) := by decide +kernel
theorem dX12_image_66 : decode cX12_image 66 = .ok (.getfield 89, 3) := by decide +kernel
theorem dX12_image_69 : decode cX12_image 69 = .ok (.aload_n 0, 1) := by decide +kernel
theorem dX12_image_70 : decode cX12_image 70 = .ok (.iload_n 1, 1) := by decide +kernel
theorem dX12_image_71 : decode cX12_image 71 = .ok (.invokevirtual 484, 3) := by decide +kernel
theorem dX12_image_74 : decode cX12_image 74 = .ok (.iaload, 1) := by decide +kernel
theorem dX12_image_75 : decode cX12_image 75 = .ok (.invokevirtual 631, 3) := by decide +kernel
theorem dX12_image_78 : decode cX12_image 78 = .ok (.iconst 0, 1) := by decide +kernel
theorem dX12_image_79 : decode cX12_image 79 = .ok (.istore_n 2, 1) := by decide +kernel
theorem dX12_image_80 : decode cX12_image 80 = .ok (.iload_n 2, 1) := by decide +kernel
theorem dX12_image_81 : decode cX12_image 81 = .ok (.aload_n 0, 1) := by decide +kernel
theorem dX12_image_82 : decode cX12_image 82 = .ok (.getfield 89, 3) := by decide +kernel
theorem dX12_image_85 : decode cX12_image 85 = .ok (.aload_n 0, 1) := by decide +kernel
theorem dX12_image_86 : decode cX12_image 86 = .ok (.iload_n 1, 1) := by decide +kernel
theorem dX12_image_87 : decode cX12_image 87 = .ok (.invokevirtual 484, 3) := by decide +kernel
theorem dX12_image_90 : decode cX12_image 90 = .ok (.iaload, 1) := by decide +kernel
theorem dX12_image_91 : decode cX12_image 91 = .ok (.if_icmp .ge 28, 3) := by decide +kernel
theorem dX12_image_94 : decode cX12_image 94 = .ok (.aload_n 0, 1) := by decide +kernel
theorem dX12_image_95 : decode cX12_image 95 = .ok (.aload_n 0, 1) := by decide +kernel
theorem dX12_image_96 : decode cX12_image 96 = .ok (.getfield 92, 3) := by decide +kernel
theorem dX12_image_99 : decode cX12_image 99 = .ok (.bipush 10, 2) := by decide +kernel
theorem dX12_image_101 : decode cX12_image 101 = .ok (.aload_n 0, 1) := by decide +kernel
theorem dX12_image_102 : decode cX12_image 102 = .ok (.iload_n 1, 1) := by decide +kernel
theorem dX12_image_103 : decode cX12_image 103 = .ok (.invokevirtual 484, 3) := by decide +kernel
theorem dX12_image_106 : decode cX12_image 106 = .ok (.imul, 1) := by decide +kernel
theorem dX12_image_107 : decode cX12_image 107 = .ok (.iload_n 2, 1) := by decide +kernel
theorem dX12_image_108 : decode cX12_image 108 = .ok (.iadd, 1) := by decide +kernel
theorem dX12_image_109 : decode cX12_image 109 = .ok (.iaload, 1) := by decide +kernel
theorem dX12_image_110 : decode cX12_image 110 = .ok (.invokevirtual 631, 3) := by decide +kernel
theorem dX12_image_113 : decode cX12_image 113 = .ok (.iinc 2 1, 3) := by decide +kernel
theorem dX12_image_116 : decode cX12_image 116 = .ok (.goto (-36), 3) := by decide +kernel
theorem dX12_image_119 : decode cX12_image 119 = .ok (.iinc 1 1, 3) := by decide +kernel
theorem dX12_image_122 : decode cX12_image 122 = .ok (.goto (-85), 3) := by decide +kernel
theorem dX12_image_125 : decode cX12_image 125 = .ok (.bipush 19, 2) := by decide +kernel
theorem dX12_image_127 : decode cX12_image 127 = .ok (.istore_n 1, 1) := by decide +kernel
theorem dX12_image_128 : decode cX12_image 128 = .ok (.iconst 0, 1) := by decide +kernel
theorem dX12_image_129 : decode cX12_image 129 = .ok (.istore_n 2, 1) := by decide +kernel
theorem dX12_image_130 : decode cX12_image 130 = .ok (.iload_n 2, 1) := by decide +kernel
theorem dX12_image_131 : decode cX12_image 131 = .ok (.aload_n 0, 1) := by decide +kernel
theorem dX12_image_132 : decode cX12_image 132 = .ok (.getfield 268, 3) := by decide +kernel
theorem dX12_image_135 : decode cX12_image 135 = .ok (.if_icmp .ge 24, 3) := by decide +kernel
theorem dX12_image_138 : decode cX12_image 138 = .ok (.iconst 3, 1) := by decide +kernel
theorem dX12_image_139 : decode cX12_image 139 = .ok (.iload_n 1, 1) := by decide +kernel
theorem dX12_image_140 : decode cX12_image 140 = .ok (.imul, 1) := by decide +kernel
theorem dX12_image_141 : decode cX12_image 141 = .ok (.aload_n 0, 1) := by decide +kernel
theorem dX12_image_142 : decode cX12_image 142 = .ok (.getfield 265, 3) := by decide +kernel
theorem dX12_image_145 : decode cX12_image 145 = .ok (.iload_n 2, 1) := by decide +kernel
theorem dX12_image_146 : decode cX12_image 146 = .ok (.iaload, 1) := by decide +kernel
theorem dX12_image_147 : decode cX12_image 147 = .ok (.iadd, 1) := by decide +kernel
theorem dX12_image_148 : decode cX12_image 148 = .ok (.sipush 233, 3) := by decide +kernel
theorem dX12_image_151 : decode cX12_image 151 = .ok (.irem, 1) := by decide +kernel
theorem dX12_image_152 : decode cX12_image 152 = .ok (.istore_n 1, 1) := by decide +kernel
theorem dX12_image_153 : decode cX12_image 153 = .ok (.iinc 2 1, 3) := by decide +kernel
theorem dX12_image_156 : decode cX12_image 156 = .ok (.goto (-26), 3) := by decide +kernel
theorem dX12_image_159 : decode cX12_image 159 = .ok (.aload_n 0, 1) := by decide +kernel
theorem dX12_image_160 : decode cX12_image 160 = .ok (.iload_n 1, 1) := by decide +kernel
theorem dX12_image_161 : decode cX12_image 161 = .ok (.invokevirtual 631, 3) := by decide +kernel
theorem dX12_image_164 : decode cX12_image 164 = .ok (.aload_n 0, 1) := by decide +kernel
theorem dX12_image_165 : decode cX12_image 165 = .ok (.getfield 268, 3) := by decide +kernel
theorem dX12_image_168 : decode cX12_image 168 = .ok (.ireturn, 1) := by decide +kernel
theorem dX12_octet_0 : decode cX12_octet 0 = .ok (.iload_n 1, 1) := by decide +kernel
theorem dX12_octet_1 : decode cX12_octet 1 = .ok (.ifCond .lt 20, 3) := by decide +kernel
theorem dX12_octet_4 : decode cX12_octet 4 = .ok (.iload_n 1, 1) := by decide +kernel
theorem dX12_octet_5 : decode cX12_octet 5 = .ok (.aload_n 0, 1) := by decide +kernel
theorem dX12_octet_6 : decode cX12_octet 6 = .ok (.getfield 268, 3) := by decide +kernel
theorem dX12_octet_9 : decode cX12_octet 9 = .ok (.if_icmp .ge 12, 3) := by decide +kernel
theorem dX12_octet_12 : decode cX12_octet 12 = .ok (.aload_n 0, 1) := by decide +kernel
theorem dX12_octet_13 : decode cX12_octet 13 = .ok (.getfield 265, 3) := by decide +kernel
theorem dX12_octet_16 : decode cX12_octet 16 = .ok (.iload_n 1, 1) := by decide +kernel
theorem dX12_octet_17 : decode cX12_octet 17 = .ok (.iaload, 1) := by decide +kernel
theorem dX12_octet_18 : decode cX12_octet 18 = .ok (.goto 4, 3) := by decide +kernel
theorem dX12_octet_21 : decode cX12_octet 21 = .ok (.iconst (-1), 1) := by decide +kernel
theorem dX12_octet_22 : decode cX12_octet 22 = .ok (.ireturn, 1) := by decide +kernel
theorem dX12_mayBeAt_0 : decode cX12_mayBeAt 0 = .ok (.iload_n 1, 1) := by decide +kernel
theorem dX12_mayBeAt_1 : decode cX12_mayBeAt 1 = .ok (.bipush 10, 2) := by decide +kernel
theorem dX12_mayBeAt_3 : decode cX12_mayBeAt 3 = .ok (.if_icmp .ge 9, 3) := by decide +kernel
theorem dX12_mayBeAt_6 : decode cX12_mayBeAt 6 = .ok (.aload_n 0, 1) := by decide +kernel
theorem dX12_mayBeAt_7 : decode cX12_mayBeAt 7 = .ok (.iload_n 1, 1) := by decide +kernel
theorem dX12_mayBeAt_8 : decode cX12_mayBeAt 8 = .ok (.invokevirtual 539, 3) := by decide +kernel
theorem dX12_mayBeAt_11 : decode cX12_mayBeAt 11 = .ok (.ireturn, 1) := by decide +kernel
theorem dX12_mayBeAt_12 : decode cX12_mayBeAt 12 = .ok (.iload_n 1, 1) := by decide +kernel
theorem dX12_mayBeAt_13 : decode cX12_mayBeAt 13 = .ok (.bipush 20, 2) := by decide +kernel
theorem dX12_mayBeAt_15 : decode cX12_mayBeAt 15 = .ok (.if_icmp .ge 12, 3) := by decide +kernel
theorem dX12_mayBeAt_18 : decode cX12_mayBeAt 18 = .ok (.aload_n 0, 1) := by decide +kernel
theorem dX12_mayBeAt_19 : decode cX12_mayBeAt 19 = .ok (.iload_n 1, 1) := by decide +kernel
theorem dX12_mayBeAt_20 : decode cX12_mayBeAt 20 = .ok (.bipush 10, 2) := by decide +kernel
theorem dX12_mayBeAt_22 : decode cX12_mayBeAt 22 = .ok (.isub, 1) := by decide +kernel
theorem dX12_mayBeAt_23 : decode cX12_mayBeAt 23 = .ok (.invokevirtual 594, 3) := by decide +kernel
theorem dX12_mayBeAt_26 : decode cX12_mayBeAt 26 = .ok (.ireturn, 1) := by decide +kernel
theorem dX12_mayBeAt_27 : decode cX12_mayBeAt 27 = .ok (.iload_n 1, 1) := by decide +kernel
theorem dX12_mayBeAt_28 : decode cX12_mayBeAt 28 = .ok (.bipush 40, 2) := by decide +kernel
theorem dX12_mayBeAt_30 : decode cX12_mayBeAt 30 = .ok (.if_icmp .eq 36, 3) := by decide +kernel
theorem dX12_mayBeAt_33 : decode cX12_mayBeAt 33 = .ok (.iload_n 1, 1) := by decide +kernel
theorem dX12_mayBeAt_34 : decode cX12_mayBeAt 34 = .ok (.bipush 40, 2) := by decide +kernel
theorem dX12_mayBeAt_36 : decode cX12_mayBeAt 36 = .ok (.if_icmp .ge 34, 3) := by decide +kernel
theorem dX12_mayBeAt_39 : decode cX12_mayBeAt 39 = .ok (.aload_n 0, 1) := by decide +kernel
theorem dX12_mayBeAt_40 : decode cX12_mayBeAt 40 = .ok (.iload_n 1, 1) := by decide +kernel
theorem dX12_mayBeAt_41 : decode cX12_mayBeAt 41 = .ok (.bipush 20, 2) := by decide +kernel
theorem dX12_mayBeAt_43 : decode cX12_mayBeAt 43 = .ok (.isub, 1) := by decide +kernel
theorem dX12_mayBeAt_44 : decode cX12_mayBeAt 44 = .ok (.invokevirtual 507, 3) := by decide +kernel
theorem dX12_mayBeAt_47 : decode cX12_mayBeAt 47 = .ok (.ifCond .eq 23, 3) := by decide +kernel
theorem dX12_mayBeAt_50 : decode cX12_mayBeAt 50 = .ok (.aload_n 0, 1) := by decide +kernel
theorem dX12_mayBeAt_51 : decode cX12_mayBeAt 51 = .ok (.getfield 70, 3) := by decide +kernel
theorem dX12_mayBeAt_54 : decode cX12_mayBeAt 54 = .ok (.aload_n 0, 1) := by decide +kernel
theorem dX12_mayBeAt_55 : decode cX12_mayBeAt 55 = .ok (.iload_n 1, 1) := by decide +kernel
theorem dX12_mayBeAt_56 : decode cX12_mayBeAt 56 = .ok (.bipush 20, 2) := by decide +kernel
theorem dX12_mayBeAt_58 : decode cX12_mayBeAt 58 = .ok (.isub, 1) := by decide +kernel
theorem dX12_mayBeAt_59 : decode cX12_mayBeAt 59 = .ok (.invokevirtual 487, 3) := by decide +kernel
theorem dX12_mayBeAt_62 : decode cX12_mayBeAt 62 = .ok (.baload, 1) := by decide +kernel
theorem dX12_mayBeAt_63 : decode cX12_mayBeAt 63 = .ok (.ifCond .eq 7, 3) := by decide +kernel
theorem dX12_mayBeAt_66 : decode cX12_mayBeAt 66 = .ok (.iconst 1, 1) := by decide +kernel
theorem dX12_mayBeAt_67 : decode cX12_mayBeAt 67 = .ok (.goto 4, 3) := by decide +kernel
theorem dX12_mayBeAt_70 : decode cX12_mayBeAt 70 = .ok (.iconst 0, 1) := by decide +kernel
theorem dX12_mayBeAt_71 : decode cX12_mayBeAt 71 = .ok (.ireturn, 1) := by decide +kernel
theorem dX12_isRowAt_0 : decode cX12_isRowAt 0 = .ok (.iconst 0, 1) := by decide +kernel
theorem dX12_isRowAt_1 : decode cX12_isRowAt 1 = .ok (.istore_n 3, 1) := by decide +kernel
theorem dX12_isRowAt_2 : decode cX12_isRowAt 2 = .ok (.iload_n 3, 1) := by decide +kernel
theorem dX12_isRowAt_3 : decode cX12_isRowAt 3 = .ok (.iload_n 2, 1) := by decide +kernel
theorem dX12_isRowAt_4 : decode cX12_isRowAt 4 = .ok (.if_icmp .ge 63, 3) := by decide +kernel
theorem dX12_isRowAt_7 : decode cX12_isRowAt 7 = .ok (.aload_n 0, 1) := by decide +kernel
theorem dX12_isRowAt_8 : decode cX12_isRowAt 8 = .ok (.aload_n 0, 1) := by decide +kernel
theorem dX12_isRowAt_9 : decode cX12_isRowAt 9 = .ok (.getfield 7, 3) := by decide +kernel
theorem dX12_isRowAt_12 : decode cX12_isRowAt 12 = .ok (.iload_n 1, 1) := by decide +kernel
theorem dX12_isRowAt_13 : decode cX12_isRowAt 13 = .ok (.iload_n 3, 1) := by decide +kernel
theorem dX12_isRowAt_14 : decode cX12_isRowAt 14 = .ok (.iadd, 1) := by decide +kernel
theorem dX12_isRowAt_15 : decode cX12_isRowAt 15 = .ok (.iaload, 1) := by decide +kernel
theorem dX12_isRowAt_16 : decode cX12_isRowAt 16 = .ok (.invokevirtual 507, 3) := by decide +kernel
theorem dX12_isRowAt_19 : decode cX12_isRowAt 19 = .ok (.ifCond .ne 5, 3) := by decide +kernel
theorem dX12_isRowAt_22 : decode cX12_isRowAt 22 = .ok (.iconst 0, 1) := by decide +kernel
theorem dX12_isRowAt_23 : decode cX12_isRowAt 23 = .ok (.ireturn, 1) := by decide +kernel
theorem dX12_isRowAt_24 : decode cX12_isRowAt 24 = .ok (.iconst 0, 1) := by decide +kernel
theorem dX12_isRowAt_25 : decode cX12_isRowAt 25 = .ok (.istore 4, 2) := by decide +kernel
theorem dX12_isRowAt_27 : decode cX12_isRowAt 27 = .ok (.iload 4, 2) := by decide +kernel
theorem dX12_isRowAt_29 : decode cX12_isRowAt 29 = .ok (.iload_n 3, 1) := by decide +kernel
theorem dX12_isRowAt_30 : decode cX12_isRowAt 30 = .ok (.if_icmp .ge 31, 3) := by decide +kernel
theorem dX12_isRowAt_33 : decode cX12_isRowAt 33 = .ok (.aload_n 0, 1) := by decide +kernel
theorem dX12_isRowAt_34 : decode cX12_isRowAt 34 = .ok (.getfield 7, 3) := by decide +kernel
theorem dX12_isRowAt_37 : decode cX12_isRowAt 37 = .ok (.iload_n 1, 1) := by decide +kernel
theorem dX12_isRowAt_38 : decode cX12_isRowAt 38 = .ok (.iload 4, 2) := by decide +kernel
theorem dX12_isRowAt_40 : decode cX12_isRowAt 40 = .ok (.iadd, 1) := by decide +kernel
theorem dX12_isRowAt_41 : decode cX12_isRowAt 41 = .ok (.iaload, 1) := by decide +kernel
theorem dX12_isRowAt_42 : decode cX12_isRowAt 42 = .ok (.aload_n 0, 1) := by decide +kernel
theorem dX12_isRowAt_43 : decode cX12_isRowAt 43 = .ok (.getfield 7, 3) := by decide +kernel
theorem dX12_isRowAt_46 : decode cX12_isRowAt 46 = .ok (.iload_n 1, 1) := by decide +kernel
theorem dX12_isRowAt_47 : decode cX12_isRowAt 47 = .ok (.iload_n 3, 1) := by decide +kernel
theorem dX12_isRowAt_48 : decode cX12_isRowAt 48 = .ok (.iadd, 1) := by decide +kernel
theorem dX12_isRowAt_49 : decode cX12_isRowAt 49 = .ok (.iaload, 1) := by decide +kernel
theorem dX12_isRowAt_50 : decode cX12_isRowAt 50 = .ok (.if_icmp .ne 5, 3) := by decide +kernel
theorem dX12_isRowAt_53 : decode cX12_isRowAt 53 = .ok (.iconst 0, 1) := by decide +kernel
theorem dX12_isRowAt_54 : decode cX12_isRowAt 54 = .ok (.ireturn, 1) := by decide +kernel
theorem dX12_isRowAt_55 : decode cX12_isRowAt 55 = .ok (.iinc 4 1, 3) := by decide +kernel
theorem dX12_isRowAt_58 : decode cX12_isRowAt 58 = .ok (.goto (-31), 3) := by decide +kernel
theorem dX12_isRowAt_61 : decode cX12_isRowAt 61 = .ok (.iinc 3 1, 3) := by decide +kernel
theorem dX12_isRowAt_64 : decode cX12_isRowAt 64 = .ok (.goto (-62), 3) := by decide +kernel
theorem dX12_isRowAt_67 : decode cX12_isRowAt 67 = .ok (.iconst 1, 1) := by decide +kernel
theorem dX12_isRowAt_68 : decode cX12_isRowAt 68 = .ok (.ireturn, 1) := by decide +kernel
theorem dX12_isWhole_0 : decode cX12_isWhole 0 = .ok (.iload_n 1, 1) := by decide +kernel
theorem dX12_isWhole_1 : decode cX12_isWhole 1 = .ok (.iconst 1, 1) := by decide +kernel
theorem dX12_isWhole_2 : decode cX12_isWhole 2 = .ok (.if_icmp .ge 5, 3) := by decide +kernel
theorem dX12_isWhole_5 : decode cX12_isWhole 5 = .ok (.iconst 0, 1) := by decide +kernel
theorem dX12_isWhole_6 : decode cX12_isWhole 6 = .ok (.ireturn, 1) := by decide +kernel
theorem dX12_isWhole_7 : decode cX12_isWhole 7 = .ok (.bipush 19, 2) := by decide +kernel
theorem dX12_isWhole_9 : decode cX12_isWhole 9 = .ok (.istore_n 2, 1) := by decide +kernel
theorem dX12_isWhole_10 : decode cX12_isWhole 10 = .ok (.iconst 0, 1) := by decide +kernel
theorem dX12_isWhole_11 : decode cX12_isWhole 11 = .ok (.istore_n 3, 1) := by decide +kernel
theorem dX12_isWhole_12 : decode cX12_isWhole 12 = .ok (.iload_n 3, 1) := by decide +kernel
theorem dX12_isWhole_13 : decode cX12_isWhole 13 = .ok (.iload_n 1, 1) := by decide +kernel
theorem dX12_isWhole_14 : decode cX12_isWhole 14 = .ok (.iconst 1, 1) := by decide +kernel
theorem dX12_isWhole_15 : decode cX12_isWhole 15 = .ok (.isub, 1) := by decide +kernel
theorem dX12_isWhole_16 : decode cX12_isWhole 16 = .ok (.if_icmp .ge 24, 3) := by decide +kernel
theorem dX12_isWhole_19 : decode cX12_isWhole 19 = .ok (.iconst 3, 1) := by decide +kernel
theorem dX12_isWhole_20 : decode cX12_isWhole 20 = .ok (.iload_n 2, 1) := by decide +kernel
theorem dX12_isWhole_21 : decode cX12_isWhole 21 = .ok (.imul, 1) := by decide +kernel
theorem dX12_isWhole_22 : decode cX12_isWhole 22 = .ok (.aload_n 0, 1) := by decide +kernel
theorem dX12_isWhole_23 : decode cX12_isWhole 23 = .ok (.getfield 7, 3) := by decide +kernel
theorem dX12_isWhole_26 : decode cX12_isWhole 26 = .ok (.iload_n 3, 1) := by decide +kernel
theorem dX12_isWhole_27 : decode cX12_isWhole 27 = .ok (.iaload, 1) := by decide +kernel
theorem dX12_isWhole_28 : decode cX12_isWhole 28 = .ok (.iadd, 1) := by decide +kernel
theorem dX12_isWhole_29 : decode cX12_isWhole 29 = .ok (.sipush 233, 3) := by decide +kernel
theorem dX12_isWhole_32 : decode cX12_isWhole 32 = .ok (.irem, 1) := by decide +kernel
theorem dX12_isWhole_33 : decode cX12_isWhole 33 = .ok (.istore_n 2, 1) := by decide +kernel
theorem dX12_isWhole_34 : decode cX12_isWhole 34 = .ok (.iinc 3 1, 3) := by decide +kernel
theorem dX12_isWhole_37 : decode cX12_isWhole 37 = .ok (.goto (-25), 3) := by decide +kernel
theorem dX12_isWhole_40 : decode cX12_isWhole 40 = .ok (.aload_n 0, 1) := by decide +kernel
theorem dX12_isWhole_41 : decode cX12_isWhole 41 = .ok (.getfield 7, 3) := by decide +kernel
theorem dX12_isWhole_44 : decode cX12_isWhole 44 = .ok (.iload_n 1, 1) := by decide +kernel
theorem dX12_isWhole_45 : decode cX12_isWhole 45 = .ok (.iconst 1, 1) := by decide +kernel
theorem dX12_isWhole_46 : decode cX12_isWhole 46 = .ok (.isub, 1) := by decide +kernel
theorem dX12_isWhole_47 : decode cX12_isWhole 47 = .ok (.iaload, 1) := by decide +kernel
theorem dX12_isWhole_48 : decode cX12_isWhole 48 = .ok (.iload_n 2, 1) := by decide +kernel
theorem dX12_isWhole_49 : decode cX12_isWhole 49 = .ok (.if_icmp .eq 5, 3) := by decide +kernel
theorem dX12_isWhole_52 : decode cX12_isWhole 52 = .ok (.iconst 0, 1) := by decide +kernel
theorem dX12_isWhole_53 : decode cX12_isWhole 53 = .ok (.ireturn, 1) := by decide +kernel
theorem dX12_isWhole_54 : decode cX12_isWhole 54 = .ok (.aload_n 0, 1) := by decide +kernel
theorem dX12_isWhole_55 : decode cX12_isWhole 55 = .ok (.getfield 95, 3) := by decide +kernel
theorem dX12_isWhole_58 : decode cX12_isWhole 58 = .ok (.aload_n 0, 1) := by decide +kernel
theorem dX12_isWhole_59 : decode cX12_isWhole 59 = .ok (.getfield 48, 3) := by decide +kernel
theorem dX12_isWhole_62 : decode cX12_isWhole 62 = .ok (.iaload, 1) := by decide +kernel
theorem dX12_isWhole_63 : decode cX12_isWhole 63 = .ok (.istore_n 3, 1) := by decide +kernel
theorem dX12_isWhole_64 : decode cX12_isWhole 64 = .ok (.iconst 0, 1) := by decide +kernel
theorem dX12_isWhole_65 : decode cX12_isWhole 65 = .ok (.istore 4, 2) := by decide +kernel
theorem dX12_isWhole_67 : decode cX12_isWhole 67 = .ok (.iload 4, 2) := by decide +kernel
theorem dX12_isWhole_69 : decode cX12_isWhole 69 = .ok (.aload_n 0, 1) := by decide +kernel
theorem dX12_isWhole_70 : decode cX12_isWhole 70 = .ok (.getfield 95, 3) := by decide +kernel
theorem dX12_isWhole_73 : decode cX12_isWhole 73 = .ok (.aload_n 0, 1) := by decide +kernel
theorem dX12_isWhole_74 : decode cX12_isWhole 74 = .ok (.getfield 48, 3) := by decide +kernel
theorem dX12_isWhole_77 : decode cX12_isWhole 77 = .ok (.iaload, 1) := by decide +kernel
theorem dX12_isWhole_78 : decode cX12_isWhole 78 = .ok (.if_icmp .ge 33, 3) := by decide +kernel
theorem dX12_isWhole_81 : decode cX12_isWhole 81 = .ok (.iload 4, 2) := by decide +kernel
theorem dX12_isWhole_83 : decode cX12_isWhole 83 = .ok (.iload_n 1, 1) := by decide +kernel
theorem dX12_isWhole_84 : decode cX12_isWhole 84 = .ok (.iconst 1, 1) := by decide +kernel
theorem dX12_isWhole_85 : decode cX12_isWhole 85 = .ok (.isub, 1) := by decide +kernel
theorem dX12_isWhole_86 : decode cX12_isWhole 86 = .ok (.if_icmp .ge 17, 3) := by decide +kernel
theorem dX12_isWhole_89 : decode cX12_isWhole 89 = .ok (.aload_n 0, 1) := by decide +kernel
theorem dX12_isWhole_90 : decode cX12_isWhole 90 = .ok (.aload_n 0, 1) := by decide +kernel
theorem dX12_isWhole_91 : decode cX12_isWhole 91 = .ok (.getfield 7, 3) := by decide +kernel
theorem dX12_isWhole_94 : decode cX12_isWhole 94 = .ok (.iload 4, 2) := by decide +kernel
theorem dX12_isWhole_96 : decode cX12_isWhole 96 = .ok (.iaload, 1) := by decide +kernel
theorem dX12_isWhole_97 : decode cX12_isWhole 97 = .ok (.invokevirtual 594, 3) := by decide +kernel
theorem dX12_isWhole_100 : decode cX12_isWhole 100 = .ok (.ifCond .ne 5, 3) := by decide +kernel
theorem dX12_isWhole_103 : decode cX12_isWhole 103 = .ok (.iconst 0, 1) := by decide +kernel
theorem dX12_isWhole_104 : decode cX12_isWhole 104 = .ok (.ireturn, 1) := by decide +kernel
theorem dX12_isWhole_105 : decode cX12_isWhole 105 = .ok (.iinc 4 1, 3) := by decide +kernel
theorem dX12_isWhole_108 : decode cX12_isWhole 108 = .ok (.goto (-41), 3) := by decide +kernel
theorem dX12_isWhole_111 : decode cX12_isWhole 111 = .ok (.iconst 0, 1) := by decide +kernel
theorem dX12_isWhole_112 : decode cX12_isWhole 112 = .ok (.istore 4, 2) := by decide +kernel
theorem dX12_isWhole_114 : decode cX12_isWhole 114 = .ok (.iload 4, 2) := by decide +kernel
theorem dX12_isWhole_116 : decode cX12_isWhole 116 = .ok (.aload_n 0, 1) := by decide +kernel
theorem dX12_isWhole_117 : decode cX12_isWhole 117 = .ok (.getfield 80, 3) := by decide +kernel
theorem dX12_isWhole_120 : decode cX12_isWhole 120 = .ok (.aload_n 0, 1) := by decide +kernel
theorem dX12_isWhole_121 : decode cX12_isWhole 121 = .ok (.getfield 48, 3) := by decide +kernel
theorem dX12_isWhole_124 : decode cX12_isWhole 124 = .ok (.iaload, 1) := by decide +kernel
theorem dX12_isWhole_125 : decode cX12_isWhole 125 = .ok (.if_icmp .ge 89, 3) := by decide +kernel
theorem dX12_isWhole_128 : decode cX12_isWhole 128 = .ok (.iload_n 3, 1) := by decide +kernel
theorem dX12_isWhole_129 : decode cX12_isWhole 129 = .ok (.iconst 2, 1) := by decide +kernel
theorem dX12_isWhole_130 : decode cX12_isWhole 130 = .ok (.iadd, 1) := by decide +kernel
theorem dX12_isWhole_131 : decode cX12_isWhole 131 = .ok (.iload_n 1, 1) := by decide +kernel
theorem dX12_isWhole_132 : decode cX12_isWhole 132 = .ok (.iconst 1, 1) := by decide +kernel
theorem dX12_isWhole_133 : decode cX12_isWhole 133 = .ok (.isub, 1) := by decide +kernel
theorem dX12_isWhole_134 : decode cX12_isWhole 134 = .ok (.if_icmp .gt 29, 3) := by decide +kernel
theorem dX12_isWhole_137 : decode cX12_isWhole 137 = .ok (.aload_n 0, 1) := by decide +kernel
theorem dX12_isWhole_138 : decode cX12_isWhole 138 = .ok (.aload_n 0, 1) := by decide +kernel
theorem dX12_isWhole_139 : decode cX12_isWhole 139 = .ok (.getfield 7, 3) := by decide +kernel
theorem dX12_isWhole_142 : decode cX12_isWhole 142 = .ok (.iload_n 3, 1) := by decide +kernel
theorem dX12_isWhole_143 : decode cX12_isWhole 143 = .ok (.iaload, 1) := by decide +kernel
theorem dX12_isWhole_144 : decode cX12_isWhole 144 = .ok (.invokevirtual 634, 3) := by decide +kernel
theorem dX12_isWhole_147 : decode cX12_isWhole 147 = .ok (.ifCond .eq 16, 3) := by decide +kernel
theorem dX12_isWhole_150 : decode cX12_isWhole 150 = .ok (.aload_n 0, 1) := by decide +kernel
theorem dX12_isWhole_151 : decode cX12_isWhole 151 = .ok (.getfield 7, 3) := by decide +kernel
theorem dX12_isWhole_154 : decode cX12_isWhole 154 = .ok (.iload_n 3, 1) := by decide +kernel
theorem dX12_isWhole_155 : decode cX12_isWhole 155 = .ok (.iconst 1, 1) := by decide +kernel
theorem dX12_isWhole_156 : decode cX12_isWhole 156 = .ok (.iadd, 1) := by decide +kernel
theorem dX12_isWhole_157 : decode cX12_isWhole 157 = .ok (.iaload, 1) := by decide +kernel
theorem dX12_isWhole_158 : decode cX12_isWhole 158 = .ok (.bipush 6, 2) := by decide +kernel
theorem dX12_isWhole_160 : decode cX12_isWhole 160 = .ok (.if_icmp .le 5, 3) := by decide +kernel
theorem dX12_isWhole_163 : decode cX12_isWhole 163 = .ok (.iconst 0, 1) := by decide +kernel
theorem dX12_isWhole_164 : decode cX12_isWhole 164 = .ok (.ireturn, 1) := by decide +kernel
theorem dX12_isWhole_165 : decode cX12_isWhole 165 = .ok (.aload_n 0, 1) := by decide +kernel
theorem dX12_isWhole_166 : decode cX12_isWhole 166 = .ok (.getfield 7, 3) := by decide +kernel
theorem dX12_isWhole_169 : decode cX12_isWhole 169 = .ok (.iload_n 3, 1) := by decide +kernel
theorem dX12_isWhole_170 : decode cX12_isWhole 170 = .ok (.iconst 1, 1) := by decide +kernel
theorem dX12_isWhole_171 : decode cX12_isWhole 171 = .ok (.iadd, 1) := by decide +kernel
theorem dX12_isWhole_172 : decode cX12_isWhole 172 = .ok (.iaload, 1) := by decide +kernel
theorem dX12_isWhole_173 : decode cX12_isWhole 173 = .ok (.istore 5, 2) := by decide +kernel
theorem dX12_isWhole_175 : decode cX12_isWhole 175 = .ok (.iload_n 3, 1) := by decide +kernel
theorem dX12_isWhole_176 : decode cX12_isWhole 176 = .ok (.iconst 2, 1) := by decide +kernel
theorem dX12_isWhole_177 : decode cX12_isWhole 177 = .ok (.iadd, 1) := by decide +kernel
theorem dX12_isWhole_178 : decode cX12_isWhole 178 = .ok (.iload 5, 2) := by decide +kernel
theorem dX12_isWhole_180 : decode cX12_isWhole 180 = .ok (.iadd, 1) := by decide +kernel
theorem dX12_isWhole_181 : decode cX12_isWhole 181 = .ok (.iload_n 1, 1) := by decide +kernel
theorem dX12_isWhole_182 : decode cX12_isWhole 182 = .ok (.iconst 1, 1) := by decide +kernel
theorem dX12_isWhole_183 : decode cX12_isWhole 183 = .ok (.isub, 1) := by decide +kernel
theorem dX12_isWhole_184 : decode cX12_isWhole 184 = .ok (.if_icmp .gt 15, 3) := by decide +kernel
theorem dX12_isWhole_187 : decode cX12_isWhole 187 = .ok (.aload_n 0, 1) := by decide +kernel
theorem dX12_isWhole_188 : decode cX12_isWhole 188 = .ok (.iload_n 3, 1) := by decide +kernel
theorem dX12_isWhole_189 : decode cX12_isWhole 189 = .ok (.iconst 2, 1) := by decide +kernel
theorem dX12_isWhole_190 : decode cX12_isWhole 190 = .ok (.iadd, 1) := by decide +kernel
theorem dX12_isWhole_191 : decode cX12_isWhole 191 = .ok (.iload 5, 2) := by decide +kernel
theorem dX12_isWhole_193 : decode cX12_isWhole 193 = .ok (.invokevirtual 637, 3) := by decide +kernel
theorem dX12_isWhole_196 : decode cX12_isWhole 196 = .ok (.ifCond .ne 5, 3) := by decide +kernel
theorem dX12_isWhole_199 : decode cX12_isWhole 199 = .ok (.iconst 0, 1) := by decide +kernel
theorem dX12_isWhole_200 : decode cX12_isWhole 200 = .ok (.ireturn, 1) := by decide +kernel
theorem dX12_isWhole_201 : decode cX12_isWhole 201 = .ok (.iload_n 3, 1) := by decide +kernel
theorem dX12_isWhole_202 : decode cX12_isWhole 202 = .ok (.iconst 2, 1) := by decide +kernel
theorem dX12_isWhole_203 : decode cX12_isWhole 203 = .ok (.iload 5, 2) := by decide +kernel
theorem dX12_isWhole_205 : decode cX12_isWhole 205 = .ok (.iadd, 1) := by decide +kernel
theorem dX12_isWhole_206 : decode cX12_isWhole 206 = .ok (.iadd, 1) := by decide +kernel
theorem dX12_isWhole_207 : decode cX12_isWhole 207 = .ok (.istore_n 3, 1) := by decide +kernel
theorem dX12_isWhole_208 : decode cX12_isWhole 208 = .ok (.iinc 4 1, 3) := by decide +kernel
theorem dX12_isWhole_211 : decode cX12_isWhole 211 = .ok (.goto (-97), 3) := by decide +kernel
theorem dX12_isWhole_214 : decode cX12_isWhole 214 = .ok (.iload_n 3, 1) := by decide +kernel
theorem dX12_isWhole_215 : decode cX12_isWhole 215 = .ok (.iload_n 1, 1) := by decide +kernel
theorem dX12_isWhole_216 : decode cX12_isWhole 216 = .ok (.iconst 1, 1) := by decide +kernel
theorem dX12_isWhole_217 : decode cX12_isWhole 217 = .ok (.isub, 1) := by decide +kernel
theorem dX12_isWhole_218 : decode cX12_isWhole 218 = .ok (.if_icmp .ne 7, 3) := by decide +kernel
theorem dX12_isWhole_221 : decode cX12_isWhole 221 = .ok (.iconst 1, 1) := by decide +kernel
theorem dX12_isWhole_222 : decode cX12_isWhole 222 = .ok (.goto 4, 3) := by decide +kernel
theorem dX12_isWhole_225 : decode cX12_isWhole 225 = .ok (.iconst 0, 1) := by decide +kernel
theorem dX12_isWhole_226 : decode cX12_isWhole 226 = .ok (.ireturn, 1) := by decide +kernel
abbrev tr_r_X12_writes (x1 : Int) (A : St) (u : St) : Prop := (∃ z1 : Int, z1 = oAnd x1 255 ∧ (∃ A2 : St, A2 = (stA (stA A 57 ((A 0 84)).toNat z1) 0 84 ((A 0 84) + 1)) ∧ (u = A2)))
def r_X12_writes (x1 : Int) (A : St) (u : St) : Prop := tr_r_X12_writes x1 A u
theorem u_r_X12_writes {x1 : Int} {A : St} {u : St} (h : tr_r_X12_writes x1 A u) : r_X12_writes x1 A u := h
def q_X12_writes (x1 : Int) (A : St) (u : St) : Prop := r_X12_writes x1 A u ∧ IM u ∧ fr [57] [84] A u ∧ (u 0 84 = A 0 84 + 1)
def ws_mc_X12_writes : List Cond := .code yX12_writes cX12_writes 2 none :: WX
set_option maxHeartbeats 4000000 in
set_option maxRecDepth 100000 in
theorem mc_X12_writes (l : Launch) (dC : Nat → ClassId) (dI : Nat → Nat → Nat) (cB cI cJ cZ cQ : ClassId) (q : Nat → Nat) (A : St) (x1 : Int) (hI : IM A) (hx1 : (-2147483648 : Int) ≤ x1 ∧ x1 ≤ 2147483647) (hp0 : A 0 84 < 48) : XMv l yX12_writes ws_mc_X12_writes ({ frames := 0, cells := 0, slots := 0, locals := 0 } : Room) (dC, dI) (tyA cB cI cJ cZ cQ) (WM cI cJ cZ q) A [.ref (q 0), .int (iI x1)] (fun u => r_X12_writes x1 A u ∧ IM u ∧ fr [57] [84] A u ∧ (u 0 84 = A 0 84 + 1)) := by
  refine x_metv (cc := cX12_writes) (maxL := 2) WM_adr (by decide +kernel) rfl (Nat.le_of_ble_eq_true rfl) (fun p e s m below meth c Q AS ls hx hb hml hown hts hK hDD hA0 hP hS hl RET => ?_)
  have hown : s.vm.findClass RX12 = some m.cls := hown
  have hl : lv_has ls 2 [(0, .ref (q 0)), (1, .int (iI x1))] := hl
  have hiX12 : ∀ w ∈ u_ws RX12 TX12 85, w ∈ ws_mc_X12_writes := fun w h => List.mem_cons_of_mem _ (wx_lay w h)
  obtain ⟨H, hHe⟩ : ∃ H : Heap, H = s.heap := ⟨_, rfl⟩
  rw [← hHe] at hP
  have hS : va_S AS s.heap H [] := by rw [hHe]; exact hS
  suffices hgo : ∀ locs : List Loc, va_S AS s.heap H locs → W p l e (headSpec ws_mc_X12_writes ({ frames := 0, cells := 0, slots := 0, locals := 0 } : Room)).room s m [.ref (q 0), .int (iI x1)].toArray below meth c H locs 0 0 Q (F0 m 0 ls []) by
    have := hgo [] hS
    rw [hHe] at this
    exact this
  clear hS hHe
  intro locs hS
  refine lv_aload_n hx hb dX12_writes_0 rfl (lv_at hl 0 rfl) ?_
  refine va_get (D := (dC, dI)) (ci := 12) (v := .ref (q 57)) (C := RX12) (T := TX12) (N := 85) hx hb hts hiX12 hown hK hP 0 wm0 rfl 83 (by decide) (hts _ (List.mem_cons_of_mem _ (wl_in_8 _ (List.mem_of_getElem? (i := 37) rfl)))) (fun _ h9 => h9) rfl dX12_writes_1 ?_
  refine lv_aload_n hx hb dX12_writes_4 rfl (lv_at hl 0 rfl) ?_
  refine va_get (D := (dC, dI)) (ci := 12) (v := .int (iI (A 0 84))) (C := RX12) (T := TX12) (N := 85) hx hb hts hiX12 hown hK hP 0 wm0 rfl 84 (by decide) (hts _ (List.mem_cons_of_mem _ (wl_in_8 _ (List.mem_of_getElem? (i := 38) rfl)))) (fun _ h9 => h9) rfl dX12_writes_5 ?_
  have r_A_0_84 : (0 : Int) ≤ (A 0 84) ∧ (A 0 84) ≤ 48 := hI 0 84
  refine lv_iload_n hx hb dX12_writes_8 rfl (lv_at hl 1 rfl) ?_
  refine lv_sipush (v := iI 255) hx hb dX12_writes_9 (by decide +kernel) ?_
  refine lv_iand hx hb dX12_writes_12 ?_
  refine x_andE (b := 255) (by omega) (fun z1 gz1 hz1 => ?_)
  refine x_iast hx hb hK hP hDD hS 57 1 wm57 rfl (by omega) (by decide) dX12_writes_13 ws57 (fun H locs hP hS => ?_)
  have hI := hI.st (j := 57) (i := ((A 0 84)).toNat) (v := z1) (show (-2147483648 : Int) ≤ z1 ∧ z1 ≤ 2147483647 from (by omega))
  refine lv_aload_n hx hb dX12_writes_14 rfl (lv_at hl 0 rfl) ?_
  refine lv_dup hx hb dX12_writes_15 rfl ?_
  refine va_get (D := (dC, dI)) (ci := 12) (v := .int (iI (A 0 84))) (C := RX12) (T := TX12) (N := 85) hx hb hts hiX12 hown hK hP 0 wm0 rfl 84 (by decide) (hts _ (List.mem_cons_of_mem _ (wl_in_8 _ (List.mem_of_getElem? (i := 38) rfl)))) (fun _ h9 => h9) rfl dX12_writes_16 ?_
  refine lv_iconst (v := iI 1) hx hb dX12_writes_19 (by decide +kernel) ?_
  refine x_addv (v := (A 0 84) + 1) hx hb dX12_writes_20 (by omega) ?_
  refine x_put (D := (dC, dI)) (ci := 12) (v := .int (iI ((A 0 84) + 1))) (ty := .int) (C := RX12) (T := TX12) (N := 85) hx hb hts hiX12 tyX12 tyX12_ok nmX12 hown hK hP hDD hS 0 wm0 rfl 84 (by decide) (hts _ (List.mem_cons_of_mem _ (wl_in_8 _ (List.mem_of_getElem? (i := 38) rfl)))) (fun _ h9 => h9) rfl (by decide +kernel) rfl rfl (Nat.le_of_ble_eq_true rfl) dX12_writes_21 (wf84 (v := (A 0 84) + 1)) (fun H locs hP hS => ?_)
  have hI := hI.st (j := 0) (i := 84) (v := (A 0 84) + 1) (show (0 : Int) ≤ (A 0 84) + 1 ∧ (A 0 84) + 1 ≤ 48 from (by omega))
  obtain ⟨A2, hA2⟩ : ∃ A2 : St, A2 = (stA (stA A 57 ((A 0 84)).toNat z1) 0 84 ((A 0 84) + 1)) := ⟨_, rfl⟩
  rw [← hA2] at hP hI
  have e_A2_84 : A2 0 84 = (A 0 84) + 1 := by rw [hA2]; rfl
  exact RET _ _ _ _ _ ⟨(u_r_X12_writes ⟨z1, gz1.out, ⟨A2, hA2, rfl⟩⟩), hI, fr_def hA2 (fr.sf (fr.st (fr.rf) (by decide) rfl) rfl), by omega⟩ hP hS dX12_writes_24

abbrev tr_d_X12_image_3 (A17 : St) (z : Int) (u : St) (K3 : Int → Int → Prop) (z28 : Int) (z29 : Int) : Prop := ((0 ≤ z28 ∧ z28 ≤ 2147483647) ∧ ((-2147483648 ≤ z29 ∧ z29 ≤ 2147483647) ∧ ((((A17 0 84) ≤ z28) ∧ (∃ A38 : St, q_X12_writes z29 A17 A38 ∧ (z = (A38 0 84) ∧ u = A38))) ∨ ((¬ (A17 0 84) ≤ z28) ∧ (∃ z41 : Int, z41 = oWrap (3 * z29) ∧ (∃ z42 : Int, z42 = A17 57 (z28).toNat ∧ (∃ z43 : Int, z43 = oWrap (z41 + z42) ∧ (∃ z44 : Int, z44 = oRem z43 233 ∧ (K3 (z28 + 1) z44)))))))))
def d_X12_image_3 (A17 : St) (z : Int) (u : St) : Nat → Int → Int → Prop
  | 0, _, _ => False
  | nn9 + 1, z28, z29 => tr_d_X12_image_3 A17 z u (fun z28 z29 => d_X12_image_3 A17 z u nn9 z28 z29) z28 z29
theorem u_d_X12_image_3 {A17 : St} {z : Int} {u : St} {nn9 : Nat} {z28 : Int} {z29 : Int} (h : tr_d_X12_image_3 A17 z u (fun z28 z29 => d_X12_image_3 A17 z u nn9 z28 z29) z28 z29) : d_X12_image_3 A17 z u (nn9 + 1) z28 z29 := h
abbrev tr_d_X12_image_4 (K2 : Int → St → Prop) (z15 : Int) (A : St) (z : Int) (u : St) (K4 : Int → St → Prop) (z59 : Int) (A61 : St) : Prop := ((IM A61) ∧ ((0 ≤ z59 ∧ z59 ≤ 6) ∧ (∃ z69 : Int, q_X12_key4 z15 A61 z69 ∧ (∃ z72 : Int, z72 = A61 14 (4 * (A 0 12) + z15).toNat ∧ (((z72 ≤ z59) ∧ (K2 (z15 + 1) A61)) ∨ ((¬ z72 ≤ z59) ∧ (∃ z74 : Int, q_X12_key4 z15 A61 z74 ∧ (∃ z77 : Int, z77 = A61 15 (40 * (A 0 12) + 10 * z15 + z59).toNat ∧ (∃ A78 : St, q_X12_writes z77 A61 A78 ∧ (K4 (z59 + 1) A78))))))))))
def d_X12_image_4 (K2 : Int → St → Prop) (z15 : Int) (A : St) (z : Int) (u : St) : Nat → Int → St → Prop
  | 0, _, _ => False
  | nn9 + 1, z59, A61 => tr_d_X12_image_4 K2 z15 A z u (fun z59 A61 => d_X12_image_4 K2 z15 A z u nn9 z59 A61) z59 A61
theorem u_d_X12_image_4 {K2 : Int → St → Prop} {z15 : Int} {A : St} {z : Int} {u : St} {nn9 : Nat} {z59 : Int} {A61 : St} (h : tr_d_X12_image_4 K2 z15 A z u (fun z59 A61 => d_X12_image_4 K2 z15 A z u nn9 z59 A61) z59 A61) : d_X12_image_4 K2 z15 A z u (nn9 + 1) z59 A61 := h
abbrev tr_d_X12_image_2 (A : St) (z : Int) (u : St) (K2 : Int → St → Prop) (z15 : Int) (A17 : St) : Prop := ((IM A17) ∧ ((0 ≤ z15 ∧ z15 ≤ 4) ∧ (∃ z26 : Int, z26 = A17 11 ((A 0 12)).toNat ∧ (((z26 ≤ z15) ∧ (∃ nn9 : Nat, d_X12_image_3 A17 z u nn9 0 19)) ∨ ((¬ z26 ≤ z15) ∧ (∃ z45 : Int, q_X12_key4 z15 A17 z45 ∧ (∃ z48 : Int, z48 = A17 13 (4 * (A 0 12) + z15).toNat ∧ (∃ A49 : St, q_X12_writes z48 A17 A49 ∧ (∃ z52 : Int, q_X12_key4 z15 A49 z52 ∧ (∃ z55 : Int, z55 = A49 14 (4 * (A 0 12) + z15).toNat ∧ (∃ A56 : St, q_X12_writes z55 A49 A56 ∧ (∃ nn9 : Nat, d_X12_image_4 K2 z15 A z u nn9 0 A56))))))))))))
def d_X12_image_2 (A : St) (z : Int) (u : St) : Nat → Int → St → Prop
  | 0, _, _ => False
  | nn9 + 1, z15, A17 => tr_d_X12_image_2 A z u (fun z15 A17 => d_X12_image_2 A z u nn9 z15 A17) z15 A17
theorem u_d_X12_image_2 {A : St} {z : Int} {u : St} {nn9 : Nat} {z15 : Int} {A17 : St} (h : tr_d_X12_image_2 A z u (fun z15 A17 => d_X12_image_2 A z u nn9 z15 A17) z15 A17) : d_X12_image_2 A z u (nn9 + 1) z15 A17 := h
abbrev tr_d_X12_image_1 (A : St) (z : Int) (u : St) (K1 : Int → St → Prop) (z2 : Int) (A4 : St) : Prop := ((IM A4) ∧ ((0 ≤ z2 ∧ z2 ≤ 3) ∧ (∃ z13 : Int, z13 = A4 16 ((A 0 12)).toNat ∧ (((z13 ≤ z2) ∧ (∃ nn9 : Nat, d_X12_image_2 A z u nn9 0 A4)) ∨ ((¬ z13 ≤ z2) ∧ (∃ z81 : Int, q_X12_placeOf z2 A4 z81 ∧ (∃ A84 : St, q_X12_writes z81 A4 A84 ∧ (K1 (z2 + 1) A84))))))))
def d_X12_image_1 (A : St) (z : Int) (u : St) : Nat → Int → St → Prop
  | 0, _, _ => False
  | nn9 + 1, z2, A4 => tr_d_X12_image_1 A z u (fun z2 A4 => d_X12_image_1 A z u nn9 z2 A4) z2 A4
theorem u_d_X12_image_1 {A : St} {z : Int} {u : St} {nn9 : Nat} {z2 : Int} {A4 : St} (h : tr_d_X12_image_1 A z u (fun z2 A4 => d_X12_image_1 A z u nn9 z2 A4) z2 A4) : d_X12_image_1 A z u (nn9 + 1) z2 A4 := h
abbrev tr_r_X12_image (A : St) (z : Int) (u : St) : Prop := (∃ A1 : St, A1 = (stA A 0 84 0) ∧ (∃ nn9 : Nat, d_X12_image_1 A z u nn9 0 A1))
def r_X12_image (A : St) (z : Int) (u : St) : Prop := tr_r_X12_image A z u
theorem u_r_X12_image {A : St} {z : Int} {u : St} (h : tr_r_X12_image A z u) : r_X12_image A z u := h
def ws_mc_X12_image : List Cond := .code yX12_image cX12_image 3 (some .int) :: WX
set_option maxHeartbeats 4000000 in
set_option maxRecDepth 100000 in
theorem mc_X12_image (l : Launch) (dC : Nat → ClassId) (dI : Nat → Nat → Nat) (cB cI cJ cZ cQ : ClassId) (q : Nat → Nat) (A : St) (hI : IM A) : XMi l yX12_image ws_mc_X12_image ({ frames := 1, cells := 0, slots := 0, locals := 21 } : Room) (dC, dI) (tyA cB cI cJ cZ cQ) (WM cI cJ cZ q) A [.ref (q 0)] (fun z u => r_X12_image A z u ∧ IM u ∧ fr [57] [84] A u ∧ (-2147483648 ≤ z ∧ z ≤ 2147483647)) := by
  refine x_meti (cc := cX12_image) (maxL := 3) WM_adr (by decide +kernel) rfl (Nat.le_of_ble_eq_true rfl) (fun p e s m below meth c Q AS ls hx hb hml hown hts hK hDD hA0 hP hS hl RET => ?_)
  have hown : s.vm.findClass RX12 = some m.cls := hown
  have hl : lv_has ls 3 [(0, .ref (q 0))] := hl
  have hiX12 : ∀ w ∈ u_ws RX12 TX12 85, w ∈ ws_mc_X12_image := fun w h => List.mem_cons_of_mem _ (wx_lay w h)
  obtain ⟨H, hHe⟩ : ∃ H : Heap, H = s.heap := ⟨_, rfl⟩
  rw [← hHe] at hP
  have hS : va_S AS s.heap H [] := by rw [hHe]; exact hS
  suffices hgo : ∀ locs : List Loc, va_S AS s.heap H locs → W p l e (headSpec ws_mc_X12_image ({ frames := 1, cells := 0, slots := 0, locals := 21 } : Room)).room s m [.ref (q 0)].toArray below meth c H locs 0 0 Q (F0 m 0 ls []) by
    have := hgo [] hS
    rw [hHe] at this
    exact this
  clear hS hHe
  intro locs hS
  refine lv_aload_n hx hb dX12_image_0 rfl (lv_at hl 0 rfl) ?_
  refine lv_iconst (v := iI 0) hx hb dX12_image_1 (by decide +kernel) ?_
  refine x_put (D := (dC, dI)) (ci := 12) (v := .int (iI 0)) (ty := .int) (C := RX12) (T := TX12) (N := 85) hx hb hts hiX12 tyX12 tyX12_ok nmX12 hown hK hP hDD hS 0 wm0 rfl 84 (by decide) (hts _ (List.mem_cons_of_mem _ (wl_in_8 _ (List.mem_of_getElem? (i := 38) rfl)))) (fun _ h9 => h9) rfl (by decide +kernel) rfl rfl (Nat.le_of_ble_eq_true rfl) dX12_image_2 (wf84 (v := 0)) (fun H locs hP hS => ?_)
  have hI := hI.st (j := 0) (i := 84) (v := 0) (show (0 : Int) ≤ 0 ∧ 0 ≤ 48 from (by omega))
  refine lv_iconst (v := iI 0) hx hb dX12_image_5 (by decide +kernel) ?_
  refine lv_istore_n (lv' := [(1, .int (iI 0)), (0, .ref (q 0))]) hx hb dX12_image_6 rfl hl (by decide) rfl (fun ls hl => ?_)
  obtain ⟨A1, hA1⟩ : ∃ A1 : St, A1 = (stA A 0 84 0) := ⟨_, rfl⟩
  rw [← hA1] at hP hI
  have L7_6 : ∀ (n8 : Nat) (z2 : Int) (A4 : St) (H : Heap) (locs : List Loc) (ls : Array Slot), (0 ≤ z2) → (0 ≤ z2 ∧ z2 ≤ 3) → ((A4 0 84) = z2) → (∀ (z : Int) (u : St), (∃ mm1 : Nat, (d_X12_image_1 A z u mm1 z2 A4)) → r_X12_image A z u) → ((A 16 ((A 0 12)).toNat - z2 + 1).toNat = n8) → IM A4 → fr [57] [84] A1 A4 → va_P (dC, dI) vwCl (WM cI cJ cZ q A4) H → va_S AS s.heap H locs → lv_has ls 3 [(1, .int (iI z2)), (0, .ref (q 0))] → W p l e (headSpec ws_mc_X12_image ({ frames := 1, cells := 0, slots := 0, locals := 21 } : Room)).room s m [.ref (q 0)].toArray below meth c H locs 0 0 Q (F0 m 7 ls []) := by
    intro n8
    induction n8 using Nat.strongRecOn with
    | ind n8 ih7 =>
      intro z2 A4 H locs ls f9 f10 f11 hk1 hn8 hI hj3 hP hS hl
      have gI12 : Hd (IM A4) := Hd.mk hI
      refine lv_iload_n hx hb dX12_image_7 rfl (lv_at hl 0 rfl) ?_
      refine lv_aload_n hx hb dX12_image_8 rfl (lv_at hl 1 rfl) ?_
      refine va_get (D := (dC, dI)) (ci := 12) (v := .ref (q 16)) (C := RX12) (T := TX12) (N := 85) hx hb hts hiX12 hown hK hP 0 wm0 rfl 27 (by decide) (hts _ (List.mem_cons_of_mem _ (wl_in_1 _ (List.mem_of_getElem? (i := 15) rfl)))) (fun _ h9 => h9) rfl dX12_image_9 ?_
      refine lv_aload_n hx hb dX12_image_12 rfl (lv_at hl 1 rfl) ?_
      have e_A1_12 : A1 0 12 = (A 0 12) := by rw [hA1]; exact rfl
      have e_A4_12 : A4 0 12 = (A 0 12) := (hj3.2 12 rfl).trans e_A1_12
      refine va_get (D := (dC, dI)) (ci := 12) (v := .int (iI (A4 0 12))) (C := RX12) (T := TX12) (N := 85) hx hb hts hiX12 hown hK hP 0 wm0 rfl 12 (by decide) (hts _ (List.mem_cons_of_mem _ (wl_in_4 _ (List.mem_of_getElem? (i := 14) rfl)))) (fun _ h9 => h9) rfl dX12_image_13 ?_
      refine tp_i (y := iI (A 0 12)) (congrArg iI e_A4_12) ?_
      have r_A_0_12 : (0 : Int) ≤ (A 0 12) ∧ (A 0 12) ≤ 1 := by rw [← e_A4_12]; exact hI 0 12
      have a_A1_16 : A1 16 = A 16 := by rw [hA1]; exact rfl
      have a_A4_16 : A4 16 = A 16 := (hj3.1 16 (by decide) rfl).trans a_A1_16
      refine x_iald hx hb hK hP 16 1 wm16 rfl (by omega) (by decide) dX12_image_16 (fun z13 hz13 => ?_)
      have rz13 : (0 : Int) ≤ z13 ∧ z13 ≤ 3 := by rw [hz13]; exact hI 16 _
      have gz13 := Hd.mk hz13
      have hz13 : z13 = A 16 ((A 0 12)).toNat := hz13.trans (congrFun a_A4_16 _)
      refine lv_icmp_ge (tgt := 35) hx hb dX12_image_17 (by decide) (fun c14 => ?_) (fun c14 => ?_)
      · have c14 : z13 ≤ z2 := (i_le (rb rz13 (by decide) (by decide)) (rb f10 (by decide) (by decide))).mp c14
        refine lv_iconst (v := iI 0) hx hb dX12_image_35 (by decide +kernel) ?_
        refine lv_istore_n (lv' := [(1, .int (iI 0)), (0, .ref (q 0))]) hx hb dX12_image_36 rfl hl (by decide) rfl (fun ls hl => ?_)
        have L37_19 : ∀ (n21 : Nat) (z15 : Int) (A17 : St) (H : Heap) (locs : List Loc) (ls : Array Slot), (0 ≤ z15) → (0 ≤ z15 ∧ z15 ≤ 4) → ((A17 0 84) ≤ 3 + 8 * z15) → (∀ (z : Int) (u : St), (∃ mm1 mm2 : Nat, (d_X12_image_2 A z u mm2 z15 A17)) → r_X12_image A z u) → ((A 11 ((A 0 12)).toNat - z15 + 1).toNat = n21) → IM A17 → fr [57] [84] A4 A17 → va_P (dC, dI) vwCl (WM cI cJ cZ q A17) H → va_S AS s.heap H locs → lv_has ls 3 [(1, .int (iI z15)), (0, .ref (q 0))] → W p l e (headSpec ws_mc_X12_image ({ frames := 1, cells := 0, slots := 0, locals := 21 } : Room)).room s m [.ref (q 0)].toArray below meth c H locs 0 0 Q (F0 m 37 ls []) := by
          intro n21
          induction n21 using Nat.strongRecOn with
          | ind n21 ih20 =>
            intro z15 A17 H locs ls f22 f23 f24 hk2 hn21 hI hj16 hP hS hl
            have gI25 : Hd (IM A17) := Hd.mk hI
            refine lv_iload_n hx hb dX12_image_37 rfl (lv_at hl 0 rfl) ?_
            refine lv_aload_n hx hb dX12_image_38 rfl (lv_at hl 1 rfl) ?_
            refine va_get (D := (dC, dI)) (ci := 12) (v := .ref (q 11)) (C := RX12) (T := TX12) (N := 85) hx hb hts hiX12 hown hK hP 0 wm0 rfl 22 (by decide) (hts _ (List.mem_cons_of_mem _ (wl_in_1 _ (List.mem_of_getElem? (i := 14) rfl)))) (fun _ h9 => h9) rfl dX12_image_39 ?_
            refine lv_aload_n hx hb dX12_image_42 rfl (lv_at hl 1 rfl) ?_
            have e_A17_12 : A17 0 12 = (A 0 12) := (hj16.2 12 rfl).trans e_A4_12
            refine va_get (D := (dC, dI)) (ci := 12) (v := .int (iI (A17 0 12))) (C := RX12) (T := TX12) (N := 85) hx hb hts hiX12 hown hK hP 0 wm0 rfl 12 (by decide) (hts _ (List.mem_cons_of_mem _ (wl_in_4 _ (List.mem_of_getElem? (i := 14) rfl)))) (fun _ h9 => h9) rfl dX12_image_43 ?_
            refine tp_i (y := iI (A 0 12)) (congrArg iI e_A17_12) ?_
            have a_A1_11 : A1 11 = A 11 := by rw [hA1]; exact rfl
            have a_A4_11 : A4 11 = A 11 := (hj3.1 11 (by decide) rfl).trans a_A1_11
            have a_A17_11 : A17 11 = A 11 := (hj16.1 11 (by decide) rfl).trans a_A4_11
            refine x_iald hx hb hK hP 11 1 wm11 rfl (by omega) (by decide) dX12_image_46 (fun z26 hz26 => ?_)
            have rz26 : (0 : Int) ≤ z26 ∧ z26 ≤ 4 := by rw [hz26]; exact hI 11 _
            have gz26 := Hd.mk hz26
            have hz26 : z26 = A 11 ((A 0 12)).toNat := hz26.trans (congrFun a_A17_11 _)
            refine lv_icmp_ge (tgt := 125) hx hb dX12_image_47 (by decide) (fun c27 => ?_) (fun c27 => ?_)
            · have c27 : z26 ≤ z15 := (i_le (rb rz26 (by decide) (by decide)) (rb f23 (by decide) (by decide))).mp c27
              refine lv_bipush (v := iI 19) hx hb dX12_image_125 (by decide +kernel) ?_
              refine lv_istore_n (lv' := [(1, .int (iI 19)), (0, .ref (q 0))]) hx hb dX12_image_127 rfl hl (by decide) rfl (fun ls hl => ?_)
              refine lv_iconst (v := iI 0) hx hb dX12_image_128 (by decide +kernel) ?_
              refine lv_istore_n (lv' := [(2, .int (iI 0)), (1, .int (iI 19)), (0, .ref (q 0))]) hx hb dX12_image_129 rfl hl (by decide) rfl (fun ls hl => ?_)
              have L130_31 : ∀ (n33 : Nat) (z28 z29 : Int) (H : Heap) (locs : List Loc) (ls : Array Slot), (0 ≤ z28) → (0 ≤ z28 ∧ z28 ≤ 2147483647) → (-2147483648 ≤ z29 ∧ z29 ≤ 2147483647) → (∀ (z : Int) (u : St), (∃ mm1 mm2 mm3 : Nat, (d_X12_image_3 A17 z u mm3 z28 z29)) → r_X12_image A z u) → (((A17 0 84) - z28 + 1).toNat = n33) → va_P (dC, dI) vwCl (WM cI cJ cZ q A17) H → va_S AS s.heap H locs → lv_has ls 3 [(2, .int (iI z28)), (1, .int (iI z29)), (0, .ref (q 0))] → W p l e (headSpec ws_mc_X12_image ({ frames := 1, cells := 0, slots := 0, locals := 21 } : Room)).room s m [.ref (q 0)].toArray below meth c H locs 0 0 Q (F0 m 130 ls []) := by
                intro n33
                induction n33 using Nat.strongRecOn with
                | ind n33 ih32 =>
                  intro z28 z29 H locs ls f34 f35 f36 hk3 hn33 hP hS hl
                  refine lv_iload_n hx hb dX12_image_130 rfl (lv_at hl 0 rfl) ?_
                  refine lv_aload_n hx hb dX12_image_131 rfl (lv_at hl 2 rfl) ?_
                  refine va_get (D := (dC, dI)) (ci := 12) (v := .int (iI (A17 0 84))) (C := RX12) (T := TX12) (N := 85) hx hb hts hiX12 hown hK hP 0 wm0 rfl 84 (by decide) (hts _ (List.mem_cons_of_mem _ (wl_in_8 _ (List.mem_of_getElem? (i := 38) rfl)))) (fun _ h9 => h9) rfl dX12_image_132 ?_
                  have r_A17_0_84 : (0 : Int) ≤ (A17 0 84) ∧ (A17 0 84) ≤ 48 := hI 0 84
                  refine lv_icmp_ge (tgt := 159) hx hb dX12_image_135 (by decide) (fun c37 => ?_) (fun c37 => ?_)
                  · have c37 : (A17 0 84) ≤ z28 := (i_le (rb r_A17_0_84 (by decide) (by decide)) (rb f35 (by decide) (by decide))).mp c37
                    refine lv_aload_n hx hb dX12_image_159 rfl (lv_at hl 2 rfl) ?_
                    refine lv_iload_n hx hb dX12_image_160 rfl (lv_at hl 1 rfl) ?_
                    refine x_callv (As := [.int (iI z29)]) (rest := []) ⟨hx, hb, hml, hown, hts⟩ (mc_X12_writes l dC dI cB cI cJ cZ cQ q _ z29 hI f36 (by omega)) (cwV 1 hts (goodV (wl_in_8 _ (List.mem_of_getElem? (i := 40) rfl)) (wl_in_8 _ (List.mem_of_getElem? (i := 41) rfl)) (wl_in_8 _ (List.mem_of_getElem? (i := 42) rfl)) (wl_in_0 _ (List.mem_of_getElem? (i := 8) rfl)) (wl_in_8 _ (List.mem_of_getElem? (i := 36) rfl))) rfl rfl rfl (by decide +kernel) ⟨Nat.le_of_ble_eq_true rfl, Nat.le_of_ble_eq_true rfl⟩) hK hDD hA0 hP hS 0 12 wm0 rfl rfl hl.1 (Nat.le_of_ble_eq_true rfl) dX12_image_161 (fun A38 H locs hw39 hP hS => ?_)
                    have ghw39 : q_X12_writes z29 A17 A38 := hw39
                    obtain ⟨_, hI, hf40, hw39⟩ := hw39
                    have r_A38_0_84 : (0 : Int) ≤ (A38 0 84) ∧ (A38 0 84) ≤ 48 := hI 0 84
                    refine lv_aload_n hx hb dX12_image_164 rfl (lv_at hl 2 rfl) ?_
                    refine va_get (D := (dC, dI)) (ci := 12) (v := .int (iI (A38 0 84))) (C := RX12) (T := TX12) (N := 85) hx hb hts hiX12 hown hK hP 0 wm0 rfl 84 (by decide) (hts _ (List.mem_cons_of_mem _ (wl_in_8 _ (List.mem_of_getElem? (i := 38) rfl)))) (fun _ h9 => h9) rfl dX12_image_165 ?_
                    exact RET (A38 0 84) _ _ _ _ _ ⟨hk3 _ _ ⟨0, 0, 0 + 1, (u_d_X12_image_3 ⟨f35, ⟨f36, (Or.inl ⟨c37, ⟨A38, ghw39, ⟨rfl, rfl⟩⟩⟩)⟩⟩)⟩, hI, fr.trans (fr.trans (fr.trans (fr_def hA1 (fr.sf (fr.rf) rfl)) hj3 rfl rfl) hj16 rfl rfl) hf40 rfl rfl, by omega⟩ hP hS dX12_image_168
                  · have c37 : ¬ (A17 0 84) ≤ z28 := mt (i_le (rb r_A17_0_84 (by decide) (by decide)) (rb f35 (by decide) (by decide))).mpr c37
                    refine lv_iconst (v := iI 3) hx hb dX12_image_138 (by decide +kernel) ?_
                    refine lv_iload_n hx hb dX12_image_139 rfl (lv_at hl 1 rfl) ?_
                    refine x_mulv (v := 3 * z29) hx hb dX12_image_140 (by omega) ?_
                    refine x_absE (fun z41 gz41 hz41 => ?_)
                    refine lv_aload_n hx hb dX12_image_141 rfl (lv_at hl 2 rfl) ?_
                    refine va_get (D := (dC, dI)) (ci := 12) (v := .ref (q 57)) (C := RX12) (T := TX12) (N := 85) hx hb hts hiX12 hown hK hP 0 wm0 rfl 83 (by decide) (hts _ (List.mem_cons_of_mem _ (wl_in_8 _ (List.mem_of_getElem? (i := 37) rfl)))) (fun _ h9 => h9) rfl dX12_image_142 ?_
                    refine lv_iload_n hx hb dX12_image_145 rfl (lv_at hl 0 rfl) ?_
                    refine x_iald hx hb hK hP 57 1 wm57 rfl (by omega) (by decide) dX12_image_146 (fun z42 hz42 => ?_)
                    have rz42 : (-2147483648 : Int) ≤ z42 ∧ z42 ≤ 2147483647 := by rw [hz42]; exact hI 57 _
                    have gz42 := Hd.mk hz42
                    have hz42 : z42 = A17 57 (z28).toNat := hz42
                    refine x_addv (v := z41 + z42) hx hb dX12_image_147 (by omega) ?_
                    refine x_absE (fun z43 gz43 hz43 => ?_)
                    refine lv_sipush (v := iI 233) hx hb dX12_image_148 (by decide +kernel) ?_
                    refine lv_irem hx hb dX12_image_151 (by decide +kernel) ?_
                    refine x_absE (fun z44 gz44 hz44 => ?_)
                    refine lv_istore_n (lv' := [(1, .int (iI z44)), (2, .int (iI z28)), (0, .ref (q 0))]) hx hb dX12_image_152 rfl hl (by decide) rfl (fun ls hl => ?_)
                    refine lv_iinc (v := iI (z28 + 1)) (lv' := [(2, .int (iI (z28 + 1))), (1, .int (iI z44)), (0, .ref (q 0))]) hx hb dX12_image_153 hl (k := 1) rfl (i_inc (by omega)) (by decide) rfl (fun ls hl => ?_)
                    refine lv_goto (tgt := 130) hx hb dX12_image_156 (by decide) ?_
                    exact ih32 _ (by omega) (z28 + 1) z44 _ _ _ (by omega) (by omega) (by omega) (fun zq uq ⟨mm1, mm2, mm3, hq⟩ => hk3 _ _ ⟨mm1, mm2, mm3 + 1, (u_d_X12_image_3 ⟨f35, ⟨f36, (Or.inr ⟨c37, ⟨z41, gz41.out, ⟨z42, gz42.out, ⟨z43, gz43.out, ⟨z44, gz44.out, hq⟩⟩⟩⟩⟩)⟩⟩)⟩) rfl hP hS (lv_sub hl [0, 1, 2] rfl)
              exact L130_31 _ 0 19 _ _ _ (by omega) (by omega) (by omega) (fun zq uq ⟨mm1, mm2, mm3, hq⟩ => hk2 _ _ ⟨mm1, mm2 + 1, (u_d_X12_image_2 ⟨gI25.out, ⟨f23, ⟨z26, gz26.out, (Or.inl ⟨c27, ⟨mm3, hq⟩⟩)⟩⟩⟩)⟩) rfl hP hS (lv_sub hl [0, 1, 2] rfl)
            · have c27 : ¬ z26 ≤ z15 := mt (i_le (rb rz26 (by decide) (by decide)) (rb f23 (by decide) (by decide))).mpr c27
              refine lv_aload_n hx hb dX12_image_50 rfl (lv_at hl 1 rfl) ?_
              refine lv_aload_n hx hb dX12_image_51 rfl (lv_at hl 1 rfl) ?_
              refine va_get (D := (dC, dI)) (ci := 12) (v := .ref (q 13)) (C := RX12) (T := TX12) (N := 85) hx hb hts hiX12 hown hK hP 0 wm0 rfl 24 (by decide) (hts _ (List.mem_cons_of_mem _ (wl_in_2 _ (List.mem_of_getElem? (i := 58) rfl)))) (fun _ h9 => h9) rfl dX12_image_52 ?_
              refine lv_aload_n hx hb dX12_image_55 rfl (lv_at hl 1 rfl) ?_
              refine lv_iload_n hx hb dX12_image_56 rfl (lv_at hl 0 rfl) ?_
              refine x_calli (As := [.int (iI z15)]) (rest := [.ref (q 13), .ref (q 0)]) ⟨hx, hb, hml, hown, hts⟩ (mc_X12_key4 l dC dI cB cI cJ cZ cQ q _ z15 hI (by omega)) (cwV 1 hts (goodV (wl_in_4 _ (List.mem_of_getElem? (i := 44) rfl)) (wl_in_4 _ (List.mem_of_getElem? (i := 45) rfl)) (wl_in_4 _ (List.mem_of_getElem? (i := 46) rfl)) (wl_in_0 _ (List.mem_of_getElem? (i := 8) rfl)) (wl_in_4 _ (List.mem_of_getElem? (i := 41) rfl))) rfl rfl rfl (by decide +kernel) ⟨Nat.le_of_ble_eq_true rfl, Nat.le_of_ble_eq_true rfl⟩) hK hDD hA0 hP hS 0 12 wm0 rfl rfl hl.1 (Nat.le_of_ble_eq_true rfl) dX12_image_57 (fun z45 A46 H locs hw47 hP hS => ?_)
              obtain ⟨rfl, hw47⟩ := hw47
              have ghw47 : q_X12_key4 z15 A17 z45 := hw47
              have hw47 := hw47.2
              refine tp_i (y := iI (4 * (A 0 12) + z15)) (congrArg iI (show z45 = 4 * (A 0 12) + z15 by omega)) ?_
              clear hw47
              have a_A1_13 : A1 13 = A 13 := by rw [hA1]; exact rfl
              have a_A4_13 : A4 13 = A 13 := (hj3.1 13 (by decide) rfl).trans a_A1_13
              have a_A17_13 : A17 13 = A 13 := (hj16.1 13 (by decide) rfl).trans a_A4_13
              refine x_iald hx hb hK hP 13 1 wm13 rfl (by omega) (by decide) dX12_image_60 (fun z48 hz48 => ?_)
              have rz48 : (0 : Int) ≤ z48 ∧ z48 ≤ 40 := by rw [hz48]; exact hI 13 _
              have gz48 := Hd.mk hz48
              have hz48 : z48 = A 13 (4 * (A 0 12) + z15).toNat := hz48.trans (congrFun a_A17_13 _)
              have r_A17_0_84 : (0 : Int) ≤ (A17 0 84) ∧ (A17 0 84) ≤ 48 := hI 0 84
              refine x_callv (As := [.int (iI z48)]) (rest := []) ⟨hx, hb, hml, hown, hts⟩ (mc_X12_writes l dC dI cB cI cJ cZ cQ q _ z48 hI (rb rz48 (by decide) (by decide)) (by omega)) (cwV 1 hts (goodV (wl_in_8 _ (List.mem_of_getElem? (i := 40) rfl)) (wl_in_8 _ (List.mem_of_getElem? (i := 41) rfl)) (wl_in_8 _ (List.mem_of_getElem? (i := 42) rfl)) (wl_in_0 _ (List.mem_of_getElem? (i := 8) rfl)) (wl_in_8 _ (List.mem_of_getElem? (i := 36) rfl))) rfl rfl rfl (by decide +kernel) ⟨Nat.le_of_ble_eq_true rfl, Nat.le_of_ble_eq_true rfl⟩) hK hDD hA0 hP hS 0 12 wm0 rfl rfl hl.1 (Nat.le_of_ble_eq_true rfl) dX12_image_61 (fun A49 H locs hw50 hP hS => ?_)
              have ghw50 : q_X12_writes z48 A17 A49 := hw50
              obtain ⟨_, hI, hf51, hw50⟩ := hw50
              have r_A49_0_84 : (0 : Int) ≤ (A49 0 84) ∧ (A49 0 84) ≤ 48 := hI 0 84
              refine lv_aload_n hx hb dX12_image_64 rfl (lv_at hl 1 rfl) ?_
              refine lv_aload_n hx hb dX12_image_65 rfl (lv_at hl 1 rfl) ?_
              refine va_get (D := (dC, dI)) (ci := 12) (v := .ref (q 14)) (C := RX12) (T := TX12) (N := 85) hx hb hts hiX12 hown hK hP 0 wm0 rfl 25 (by decide) (hts _ (List.mem_cons_of_mem _ (wl_in_2 _ (List.mem_of_getElem? (i := 59) rfl)))) (fun _ h9 => h9) rfl dX12_image_66 ?_
              refine lv_aload_n hx hb dX12_image_69 rfl (lv_at hl 1 rfl) ?_
              refine lv_iload_n hx hb dX12_image_70 rfl (lv_at hl 0 rfl) ?_
              have e_A49_12 : A49 0 12 = (A 0 12) := (hf51.2 12 rfl).trans e_A17_12
              refine x_calli (As := [.int (iI z15)]) (rest := [.ref (q 14), .ref (q 0)]) ⟨hx, hb, hml, hown, hts⟩ (mc_X12_key4 l dC dI cB cI cJ cZ cQ q _ z15 hI (by omega)) (cwV 1 hts (goodV (wl_in_4 _ (List.mem_of_getElem? (i := 44) rfl)) (wl_in_4 _ (List.mem_of_getElem? (i := 45) rfl)) (wl_in_4 _ (List.mem_of_getElem? (i := 46) rfl)) (wl_in_0 _ (List.mem_of_getElem? (i := 8) rfl)) (wl_in_4 _ (List.mem_of_getElem? (i := 41) rfl))) rfl rfl rfl (by decide +kernel) ⟨Nat.le_of_ble_eq_true rfl, Nat.le_of_ble_eq_true rfl⟩) hK hDD hA0 hP hS 0 12 wm0 rfl rfl hl.1 (Nat.le_of_ble_eq_true rfl) dX12_image_71 (fun z52 A53 H locs hw54 hP hS => ?_)
              obtain ⟨rfl, hw54⟩ := hw54
              have ghw54 : q_X12_key4 z15 A49 z52 := hw54
              have hw54 := hw54.2
              refine tp_i (y := iI (4 * (A 0 12) + z15)) (congrArg iI (show z52 = 4 * (A 0 12) + z15 by omega)) ?_
              clear hw54
              have a_A1_14 : A1 14 = A 14 := by rw [hA1]; exact rfl
              have a_A4_14 : A4 14 = A 14 := (hj3.1 14 (by decide) rfl).trans a_A1_14
              have a_A17_14 : A17 14 = A 14 := (hj16.1 14 (by decide) rfl).trans a_A4_14
              have a_A49_14 : A49 14 = A 14 := (hf51.1 14 (by decide) rfl).trans a_A17_14
              refine x_iald hx hb hK hP 14 1 wm14 rfl (by omega) (by decide) dX12_image_74 (fun z55 hz55 => ?_)
              have rz55 : (0 : Int) ≤ z55 ∧ z55 ≤ 6 := by rw [hz55]; exact hI 14 _
              have gz55 := Hd.mk hz55
              have hz55 : z55 = A 14 (4 * (A 0 12) + z15).toNat := hz55.trans (congrFun a_A49_14 _)
              refine x_callv (As := [.int (iI z55)]) (rest := []) ⟨hx, hb, hml, hown, hts⟩ (mc_X12_writes l dC dI cB cI cJ cZ cQ q _ z55 hI (rb rz55 (by decide) (by decide)) (by omega)) (cwV 1 hts (goodV (wl_in_8 _ (List.mem_of_getElem? (i := 40) rfl)) (wl_in_8 _ (List.mem_of_getElem? (i := 41) rfl)) (wl_in_8 _ (List.mem_of_getElem? (i := 42) rfl)) (wl_in_0 _ (List.mem_of_getElem? (i := 8) rfl)) (wl_in_8 _ (List.mem_of_getElem? (i := 36) rfl))) rfl rfl rfl (by decide +kernel) ⟨Nat.le_of_ble_eq_true rfl, Nat.le_of_ble_eq_true rfl⟩) hK hDD hA0 hP hS 0 12 wm0 rfl rfl hl.1 (Nat.le_of_ble_eq_true rfl) dX12_image_75 (fun A56 H locs hw57 hP hS => ?_)
              have ghw57 : q_X12_writes z55 A49 A56 := hw57
              obtain ⟨_, hI, hf58, hw57⟩ := hw57
              have r_A56_0_84 : (0 : Int) ≤ (A56 0 84) ∧ (A56 0 84) ≤ 48 := hI 0 84
              refine lv_iconst (v := iI 0) hx hb dX12_image_78 (by decide +kernel) ?_
              refine lv_istore_n (lv' := [(2, .int (iI 0)), (1, .int (iI z15)), (0, .ref (q 0))]) hx hb dX12_image_79 rfl hl (by decide) rfl (fun ls hl => ?_)
              have L80_62 : ∀ (n64 : Nat) (z59 : Int) (A61 : St) (H : Heap) (locs : List Loc) (ls : Array Slot), (0 ≤ z59) → (0 ≤ z59 ∧ z59 ≤ 6) → ((A61 0 84) ≤ 5 + 8 * z15 + z59) → (∀ (z : Int) (u : St), (∃ mm1 mm2 mm4 : Nat, (d_X12_image_4 (fun z15' A17' => d_X12_image_2 A z u mm2 z15' A17') z15 A z u mm4 z59 A61)) → r_X12_image A z u) → ((6 - z59).toNat = n64) → IM A61 → fr [57] [84] A56 A61 → va_P (dC, dI) vwCl (WM cI cJ cZ q A61) H → va_S AS s.heap H locs → lv_has ls 3 [(2, .int (iI z59)), (1, .int (iI z15)), (0, .ref (q 0))] → W p l e (headSpec ws_mc_X12_image ({ frames := 1, cells := 0, slots := 0, locals := 21 } : Room)).room s m [.ref (q 0)].toArray below meth c H locs 0 0 Q (F0 m 80 ls []) := by
                intro n64
                induction n64 using Nat.strongRecOn with
                | ind n64 ih63 =>
                  intro z59 A61 H locs ls f65 f66 f67 hk4 hn64 hI hj60 hP hS hl
                  have gI68 : Hd (IM A61) := Hd.mk hI
                  refine lv_iload_n hx hb dX12_image_80 rfl (lv_at hl 0 rfl) ?_
                  refine lv_aload_n hx hb dX12_image_81 rfl (lv_at hl 2 rfl) ?_
                  refine va_get (D := (dC, dI)) (ci := 12) (v := .ref (q 14)) (C := RX12) (T := TX12) (N := 85) hx hb hts hiX12 hown hK hP 0 wm0 rfl 25 (by decide) (hts _ (List.mem_cons_of_mem _ (wl_in_2 _ (List.mem_of_getElem? (i := 59) rfl)))) (fun _ h9 => h9) rfl dX12_image_82 ?_
                  refine lv_aload_n hx hb dX12_image_85 rfl (lv_at hl 2 rfl) ?_
                  refine lv_iload_n hx hb dX12_image_86 rfl (lv_at hl 1 rfl) ?_
                  have e_A56_12 : A56 0 12 = (A 0 12) := (hf58.2 12 rfl).trans e_A49_12
                  have e_A61_12 : A61 0 12 = (A 0 12) := (hj60.2 12 rfl).trans e_A56_12
                  refine x_calli (As := [.int (iI z15)]) (rest := [.ref (q 14), .int (iI z59)]) ⟨hx, hb, hml, hown, hts⟩ (mc_X12_key4 l dC dI cB cI cJ cZ cQ q _ z15 hI (by omega)) (cwV 1 hts (goodV (wl_in_4 _ (List.mem_of_getElem? (i := 44) rfl)) (wl_in_4 _ (List.mem_of_getElem? (i := 45) rfl)) (wl_in_4 _ (List.mem_of_getElem? (i := 46) rfl)) (wl_in_0 _ (List.mem_of_getElem? (i := 8) rfl)) (wl_in_4 _ (List.mem_of_getElem? (i := 41) rfl))) rfl rfl rfl (by decide +kernel) ⟨Nat.le_of_ble_eq_true rfl, Nat.le_of_ble_eq_true rfl⟩) hK hDD hA0 hP hS 0 12 wm0 rfl rfl hl.1 (Nat.le_of_ble_eq_true rfl) dX12_image_87 (fun z69 A70 H locs hw71 hP hS => ?_)
                  obtain ⟨rfl, hw71⟩ := hw71
                  have ghw71 : q_X12_key4 z15 A61 z69 := hw71
                  have hw71 := hw71.2
                  refine tp_i (y := iI (4 * (A 0 12) + z15)) (congrArg iI (show z69 = 4 * (A 0 12) + z15 by omega)) ?_
                  clear hw71
                  have a_A56_14 : A56 14 = A 14 := (hf58.1 14 (by decide) rfl).trans a_A49_14
                  have a_A61_14 : A61 14 = A 14 := (hj60.1 14 (by decide) rfl).trans a_A56_14
                  refine x_iald hx hb hK hP 14 1 wm14 rfl (by omega) (by decide) dX12_image_90 (fun z72 hz72 => ?_)
                  have rz72 : (0 : Int) ≤ z72 ∧ z72 ≤ 6 := by rw [hz72]; exact hI 14 _
                  have gz72 := Hd.mk hz72
                  have hz72 : z72 = A 14 (4 * (A 0 12) + z15).toNat := hz72.trans (congrFun a_A61_14 _)
                  have ez72 : z72 = z55 := hz72.trans hz55.symm
                  refine lv_icmp_ge (tgt := 119) hx hb dX12_image_91 (by decide) (fun c73 => ?_) (fun c73 => ?_)
                  · have c73 : z72 ≤ z59 := (i_le (rb rz72 (by decide) (by decide)) (rb f66 (by decide) (by decide))).mp c73
                    refine lv_iinc (v := iI (z15 + 1)) (lv' := [(1, .int (iI (z15 + 1))), (2, .int (iI z59)), (0, .ref (q 0))]) hx hb dX12_image_119 hl (k := 1) rfl (i_inc (by omega)) (by decide) rfl (fun ls hl => ?_)
                    refine lv_goto (tgt := 37) hx hb dX12_image_122 (by decide) ?_
                    have r_A61_0_84 : (0 : Int) ≤ (A61 0 84) ∧ (A61 0 84) ≤ 48 := hI 0 84
                    exact ih20 _ (by omega) (z15 + 1) _ _ _ _ (by omega) (by omega) (by omega) (fun zq uq ⟨mm1, mm2, hq⟩ => hk4 _ _ ⟨mm1, mm2, 0 + 1, (u_d_X12_image_4 ⟨gI68.out, ⟨f66, ⟨z69, ghw71, ⟨z72, gz72.out, (Or.inl ⟨c73, hq⟩)⟩⟩⟩⟩)⟩) rfl hI (fr.trans (fr.trans (fr.trans (fr.trans (fr.rf) hj16 rfl rfl) hf51 rfl rfl) hf58 rfl rfl) hj60 rfl rfl) hP hS (lv_sub hl [0, 2] rfl)
                  · have c73 : ¬ z72 ≤ z59 := mt (i_le (rb rz72 (by decide) (by decide)) (rb f66 (by decide) (by decide))).mpr c73
                    refine lv_aload_n hx hb dX12_image_94 rfl (lv_at hl 2 rfl) ?_
                    refine lv_aload_n hx hb dX12_image_95 rfl (lv_at hl 2 rfl) ?_
                    refine va_get (D := (dC, dI)) (ci := 12) (v := .ref (q 15)) (C := RX12) (T := TX12) (N := 85) hx hb hts hiX12 hown hK hP 0 wm0 rfl 26 (by decide) (hts _ (List.mem_cons_of_mem _ (wl_in_3 _ (List.mem_of_getElem? (i := 7) rfl)))) (fun _ h9 => h9) rfl dX12_image_96 ?_
                    refine lv_bipush (v := iI 10) hx hb dX12_image_99 (by decide +kernel) ?_
                    refine lv_aload_n hx hb dX12_image_101 rfl (lv_at hl 2 rfl) ?_
                    refine lv_iload_n hx hb dX12_image_102 rfl (lv_at hl 1 rfl) ?_
                    refine x_calli (As := [.int (iI z15)]) (rest := [.int (iI 10), .ref (q 15), .ref (q 0)]) ⟨hx, hb, hml, hown, hts⟩ (mc_X12_key4 l dC dI cB cI cJ cZ cQ q _ z15 hI (by omega)) (cwV 1 hts (goodV (wl_in_4 _ (List.mem_of_getElem? (i := 44) rfl)) (wl_in_4 _ (List.mem_of_getElem? (i := 45) rfl)) (wl_in_4 _ (List.mem_of_getElem? (i := 46) rfl)) (wl_in_0 _ (List.mem_of_getElem? (i := 8) rfl)) (wl_in_4 _ (List.mem_of_getElem? (i := 41) rfl))) rfl rfl rfl (by decide +kernel) ⟨Nat.le_of_ble_eq_true rfl, Nat.le_of_ble_eq_true rfl⟩) hK hDD hA0 hP hS 0 12 wm0 rfl rfl hl.1 (Nat.le_of_ble_eq_true rfl) dX12_image_103 (fun z74 A75 H locs hw76 hP hS => ?_)
                    obtain ⟨rfl, hw76⟩ := hw76
                    have ghw76 : q_X12_key4 z15 A61 z74 := hw76
                    have hw76 := hw76.2
                    refine tp_i (y := iI (4 * (A 0 12) + z15)) (congrArg iI (show z74 = 4 * (A 0 12) + z15 by omega)) ?_
                    clear hw76
                    refine x_mulv (v := 40 * (A 0 12) + 10 * z15) hx hb dX12_image_106 (by omega) ?_
                    refine lv_iload_n hx hb dX12_image_107 rfl (lv_at hl 0 rfl) ?_
                    refine x_addv (v := 40 * (A 0 12) + 10 * z15 + z59) hx hb dX12_image_108 (by omega) ?_
                    have a_A1_15 : A1 15 = A 15 := by rw [hA1]; exact rfl
                    have a_A4_15 : A4 15 = A 15 := (hj3.1 15 (by decide) rfl).trans a_A1_15
                    have a_A17_15 : A17 15 = A 15 := (hj16.1 15 (by decide) rfl).trans a_A4_15
                    have a_A49_15 : A49 15 = A 15 := (hf51.1 15 (by decide) rfl).trans a_A17_15
                    have a_A56_15 : A56 15 = A 15 := (hf58.1 15 (by decide) rfl).trans a_A49_15
                    have a_A61_15 : A61 15 = A 15 := (hj60.1 15 (by decide) rfl).trans a_A56_15
                    refine x_iald hx hb hK hP 15 1 wm15 rfl (by omega) (by decide) dX12_image_109 (fun z77 hz77 => ?_)
                    have rz77 : (0 : Int) ≤ z77 ∧ z77 ≤ 9 := by rw [hz77]; exact hI 15 _
                    have gz77 := Hd.mk hz77
                    have hz77 : z77 = A 15 (40 * (A 0 12) + 10 * z15 + z59).toNat := hz77.trans (congrFun a_A61_15 _)
                    have r_A61_0_84 : (0 : Int) ≤ (A61 0 84) ∧ (A61 0 84) ≤ 48 := hI 0 84
                    refine x_callv (As := [.int (iI z77)]) (rest := []) ⟨hx, hb, hml, hown, hts⟩ (mc_X12_writes l dC dI cB cI cJ cZ cQ q _ z77 hI (rb rz77 (by decide) (by decide)) (by omega)) (cwV 1 hts (goodV (wl_in_8 _ (List.mem_of_getElem? (i := 40) rfl)) (wl_in_8 _ (List.mem_of_getElem? (i := 41) rfl)) (wl_in_8 _ (List.mem_of_getElem? (i := 42) rfl)) (wl_in_0 _ (List.mem_of_getElem? (i := 8) rfl)) (wl_in_8 _ (List.mem_of_getElem? (i := 36) rfl))) rfl rfl rfl (by decide +kernel) ⟨Nat.le_of_ble_eq_true rfl, Nat.le_of_ble_eq_true rfl⟩) hK hDD hA0 hP hS 0 12 wm0 rfl rfl hl.1 (Nat.le_of_ble_eq_true rfl) dX12_image_110 (fun A78 H locs hw79 hP hS => ?_)
                    have ghw79 : q_X12_writes z77 A61 A78 := hw79
                    obtain ⟨_, hI, hf80, hw79⟩ := hw79
                    have r_A78_0_84 : (0 : Int) ≤ (A78 0 84) ∧ (A78 0 84) ≤ 48 := hI 0 84
                    refine lv_iinc (v := iI (z59 + 1)) (lv' := [(2, .int (iI (z59 + 1))), (1, .int (iI z15)), (0, .ref (q 0))]) hx hb dX12_image_113 hl (k := 0) rfl (i_inc (by omega)) (by decide) rfl (fun ls hl => ?_)
                    refine lv_goto (tgt := 80) hx hb dX12_image_116 (by decide) ?_
                    exact ih63 _ (by omega) (z59 + 1) _ _ _ _ (by omega) (by omega) (by omega) (fun zq uq ⟨mm1, mm2, mm4, hq⟩ => hk4 _ _ ⟨mm1, mm2, mm4 + 1, (u_d_X12_image_4 ⟨gI68.out, ⟨f66, ⟨z69, ghw71, ⟨z72, gz72.out, (Or.inr ⟨c73, ⟨z74, ghw76, ⟨z77, gz77.out, ⟨A78, ghw79, hq⟩⟩⟩⟩)⟩⟩⟩⟩)⟩) rfl hI (fr.trans (fr.trans (fr.rf) hj60 rfl rfl) hf80 rfl rfl) hP hS (lv_sub hl [0, 1, 2] rfl)
              exact L80_62 _ 0 _ _ _ _ (by omega) (by omega) (by omega) (fun zq uq ⟨mm1, mm2, mm4, hq⟩ => hk2 _ _ ⟨mm1, mm2 + 1, (u_d_X12_image_2 ⟨gI25.out, ⟨f23, ⟨z26, gz26.out, (Or.inr ⟨c27, ⟨z45, ghw47, ⟨z48, gz48.out, ⟨A49, ghw50, ⟨z52, ghw54, ⟨z55, gz55.out, ⟨A56, ghw57, ⟨mm4, hq⟩⟩⟩⟩⟩⟩⟩⟩)⟩⟩⟩)⟩) rfl hI (fr.rf) hP hS (lv_sub hl [0, 1, 2] rfl)
        have r_A4_0_84 : (0 : Int) ≤ (A4 0 84) ∧ (A4 0 84) ≤ 48 := hI 0 84
        exact L37_19 _ 0 _ _ _ _ (by omega) (by omega) (by omega) (fun zq uq ⟨mm1, mm2, hq⟩ => hk1 _ _ ⟨mm1 + 1, (u_d_X12_image_1 ⟨gI12.out, ⟨f10, ⟨z13, gz13.out, (Or.inl ⟨c14, ⟨mm2, hq⟩⟩)⟩⟩⟩)⟩) rfl hI (fr.rf) hP hS (lv_sub hl [0, 1] rfl)
      · have c14 : ¬ z13 ≤ z2 := mt (i_le (rb rz13 (by decide) (by decide)) (rb f10 (by decide) (by decide))).mpr c14
        refine lv_aload_n hx hb dX12_image_20 rfl (lv_at hl 1 rfl) ?_
        refine lv_aload_n hx hb dX12_image_21 rfl (lv_at hl 1 rfl) ?_
        refine lv_iload_n hx hb dX12_image_22 rfl (lv_at hl 0 rfl) ?_
        refine x_calli (As := [.int (iI z2)]) (rest := [.ref (q 0)]) ⟨hx, hb, hml, hown, hts⟩ (mc_X12_placeOf l dC dI cB cI cJ cZ cQ q _ z2 hI (by omega)) (cwV 1 hts (goodV (wl_in_5 _ (List.mem_of_getElem? (i := 35) rfl)) (wl_in_5 _ (List.mem_of_getElem? (i := 36) rfl)) (wl_in_5 _ (List.mem_of_getElem? (i := 37) rfl)) (wl_in_0 _ (List.mem_of_getElem? (i := 8) rfl)) (wl_in_5 _ (List.mem_of_getElem? (i := 25) rfl))) rfl rfl rfl (by decide +kernel) ⟨Nat.le_of_ble_eq_true rfl, Nat.le_of_ble_eq_true rfl⟩) hK hDD hA0 hP hS 0 12 wm0 rfl rfl hl.1 (Nat.le_of_ble_eq_true rfl) dX12_image_23 (fun z81 A82 H locs hw83 hP hS => ?_)
        obtain ⟨rfl, hw83⟩ := hw83
        have ghw83 : q_X12_placeOf z2 A4 z81 := hw83
        have hw83 := hw83.2
        have r_A4_0_84 : (0 : Int) ≤ (A4 0 84) ∧ (A4 0 84) ≤ 48 := hI 0 84
        refine x_callv (As := [.int (iI z81)]) (rest := []) ⟨hx, hb, hml, hown, hts⟩ (mc_X12_writes l dC dI cB cI cJ cZ cQ q _ z81 hI (rb hw83 (by decide) (by decide)) (by omega)) (cwV 1 hts (goodV (wl_in_8 _ (List.mem_of_getElem? (i := 40) rfl)) (wl_in_8 _ (List.mem_of_getElem? (i := 41) rfl)) (wl_in_8 _ (List.mem_of_getElem? (i := 42) rfl)) (wl_in_0 _ (List.mem_of_getElem? (i := 8) rfl)) (wl_in_8 _ (List.mem_of_getElem? (i := 36) rfl))) rfl rfl rfl (by decide +kernel) ⟨Nat.le_of_ble_eq_true rfl, Nat.le_of_ble_eq_true rfl⟩) hK hDD hA0 hP hS 0 12 wm0 rfl rfl hl.1 (Nat.le_of_ble_eq_true rfl) dX12_image_26 (fun A84 H locs hw85 hP hS => ?_)
        have ghw85 : q_X12_writes z81 A4 A84 := hw85
        obtain ⟨_, hI, hf86, hw85⟩ := hw85
        have r_A84_0_84 : (0 : Int) ≤ (A84 0 84) ∧ (A84 0 84) ≤ 48 := hI 0 84
        refine lv_iinc (v := iI (z2 + 1)) (lv' := [(1, .int (iI (z2 + 1))), (0, .ref (q 0))]) hx hb dX12_image_29 hl (k := 0) rfl (i_inc (by omega)) (by decide) rfl (fun ls hl => ?_)
        refine lv_goto (tgt := 7) hx hb dX12_image_32 (by decide) ?_
        exact ih7 _ (by omega) (z2 + 1) _ _ _ _ (by omega) (by omega) (by omega) (fun zq uq ⟨mm1, hq⟩ => hk1 _ _ ⟨mm1 + 1, (u_d_X12_image_1 ⟨gI12.out, ⟨f10, ⟨z13, gz13.out, (Or.inr ⟨c14, ⟨z81, ghw83, ⟨A84, ghw85, hq⟩⟩⟩)⟩⟩⟩)⟩) rfl hI (fr.trans (fr.trans (fr.rf) hj3 rfl rfl) hf86 rfl rfl) hP hS (lv_sub hl [0, 1] rfl)
  have e_A1_84 : A1 0 84 = 0 := by rw [hA1]; rfl
  exact L7_6 _ 0 _ _ _ _ (by omega) (by omega) (by omega) (fun zq uq ⟨mm1, hq⟩ => (u_r_X12_image ⟨A1, hA1, ⟨mm1, hq⟩⟩)) rfl hI (fr.rf) hP hS (lv_sub hl [0, 1] rfl)

abbrev tr_r_X12_octet (x1 : Int) (A : St) (z : Int) : Prop := (((x1 < 0) ∧ (z = (-1))) ∨ ((¬ x1 < 0) ∧ ((((A 0 84) ≤ x1) ∧ (z = (-1))) ∨ ((¬ (A 0 84) ≤ x1) ∧ (∃ z3 : Int, z3 = A 57 (x1).toNat ∧ (z = z3))))))
def r_X12_octet (x1 : Int) (A : St) (z : Int) : Prop := tr_r_X12_octet x1 A z
theorem u_r_X12_octet {x1 : Int} {A : St} {z : Int} (h : tr_r_X12_octet x1 A z) : r_X12_octet x1 A z := h
def ws_mc_X12_octet : List Cond := .code yX12_octet cX12_octet 2 (some .int) :: WX
set_option maxHeartbeats 4000000 in
set_option maxRecDepth 100000 in
theorem mc_X12_octet (l : Launch) (dC : Nat → ClassId) (dI : Nat → Nat → Nat) (cB cI cJ cZ cQ : ClassId) (q : Nat → Nat) (A : St) (x1 : Int) (hI : IM A) (hx1 : (-2147483648 : Int) ≤ x1 ∧ x1 ≤ 2147483647) : XMi l yX12_octet ws_mc_X12_octet ({ frames := 0, cells := 0, slots := 0, locals := 0 } : Room) (dC, dI) (tyA cB cI cJ cZ cQ) (WM cI cJ cZ q) A [.ref (q 0), .int (iI x1)] (fun z u => A = u ∧ r_X12_octet x1 A z ∧ (-2147483648 ≤ z ∧ z ≤ 2147483647)) := by
  refine x_meti (cc := cX12_octet) (maxL := 2) WM_adr (by decide +kernel) rfl (Nat.le_of_ble_eq_true rfl) (fun p e s m below meth c Q AS ls hx hb hml hown hts hK hDD hA0 hP hS hl RET => ?_)
  have hown : s.vm.findClass RX12 = some m.cls := hown
  have hl : lv_has ls 2 [(0, .ref (q 0)), (1, .int (iI x1))] := hl
  have hiX12 : ∀ w ∈ u_ws RX12 TX12 85, w ∈ ws_mc_X12_octet := fun w h => List.mem_cons_of_mem _ (wx_lay w h)
  obtain ⟨H, hHe⟩ : ∃ H : Heap, H = s.heap := ⟨_, rfl⟩
  rw [← hHe] at hP
  have hS : va_S AS s.heap H [] := by rw [hHe]; exact hS
  suffices hgo : ∀ locs : List Loc, va_S AS s.heap H locs → W p l e (headSpec ws_mc_X12_octet ({ frames := 0, cells := 0, slots := 0, locals := 0 } : Room)).room s m [.ref (q 0), .int (iI x1)].toArray below meth c H locs 0 0 Q (F0 m 0 ls []) by
    have := hgo [] hS
    rw [hHe] at this
    exact this
  clear hS hHe
  intro locs hS
  refine lv_iload_n hx hb dX12_octet_0 rfl (lv_at hl 1 rfl) ?_
  refine lv_if_lt (tgt := 21) hx hb dX12_octet_1 (by decide) (fun c1 => ?_) (fun c1 => ?_)
  · have c1 : x1 < 0 := (i_lt0 hx1).mp c1
    refine lv_iconst (v := iI (-1)) hx hb dX12_octet_21 (by decide +kernel) ?_
    exact RET (-1) _ _ _ _ _ ⟨rfl, (u_r_X12_octet (Or.inl ⟨c1, rfl⟩)), by omega⟩ hP hS dX12_octet_22
  · have c1 : ¬ x1 < 0 := mt (i_lt0 hx1).mpr c1
    refine lv_iload_n hx hb dX12_octet_4 rfl (lv_at hl 1 rfl) ?_
    refine lv_aload_n hx hb dX12_octet_5 rfl (lv_at hl 0 rfl) ?_
    refine va_get (D := (dC, dI)) (ci := 12) (v := .int (iI (A 0 84))) (C := RX12) (T := TX12) (N := 85) hx hb hts hiX12 hown hK hP 0 wm0 rfl 84 (by decide) (hts _ (List.mem_cons_of_mem _ (wl_in_8 _ (List.mem_of_getElem? (i := 38) rfl)))) (fun _ h9 => h9) rfl dX12_octet_6 ?_
    have r_A_0_84 : (0 : Int) ≤ (A 0 84) ∧ (A 0 84) ≤ 48 := hI 0 84
    refine lv_icmp_ge (tgt := 21) hx hb dX12_octet_9 (by decide) (fun c2 => ?_) (fun c2 => ?_)
    · have c2 : (A 0 84) ≤ x1 := (i_le (rb r_A_0_84 (by decide) (by decide)) hx1).mp c2
      refine lv_iconst (v := iI (-1)) hx hb dX12_octet_21 (by decide +kernel) ?_
      exact RET (-1) _ _ _ _ _ ⟨rfl, (u_r_X12_octet (Or.inr ⟨c1, (Or.inl ⟨c2, rfl⟩)⟩)), by omega⟩ hP hS dX12_octet_22
    · have c2 : ¬ (A 0 84) ≤ x1 := mt (i_le (rb r_A_0_84 (by decide) (by decide)) hx1).mpr c2
      refine lv_aload_n hx hb dX12_octet_12 rfl (lv_at hl 0 rfl) ?_
      refine va_get (D := (dC, dI)) (ci := 12) (v := .ref (q 57)) (C := RX12) (T := TX12) (N := 85) hx hb hts hiX12 hown hK hP 0 wm0 rfl 83 (by decide) (hts _ (List.mem_cons_of_mem _ (wl_in_8 _ (List.mem_of_getElem? (i := 37) rfl)))) (fun _ h9 => h9) rfl dX12_octet_13 ?_
      refine lv_iload_n hx hb dX12_octet_16 rfl (lv_at hl 1 rfl) ?_
      refine x_iald hx hb hK hP 57 1 wm57 rfl (by omega) (by decide) dX12_octet_17 (fun z3 hz3 => ?_)
      have rz3 : (-2147483648 : Int) ≤ z3 ∧ z3 ≤ 2147483647 := by rw [hz3]; exact hI 57 _
      have gz3 := Hd.mk hz3
      have hz3 : z3 = A 57 (x1).toNat := hz3
      refine lv_goto (tgt := 22) hx hb dX12_octet_18 (by decide) ?_
      exact RET z3 _ _ _ _ _ ⟨rfl, (u_r_X12_octet (Or.inr ⟨c1, (Or.inr ⟨c2, ⟨z3, gz3.out, rfl⟩⟩)⟩)), by omega⟩ hP hS dX12_octet_22

abbrev tr_r_X12_isTest (x1 : Int) (A : St) (z : Int) : Prop := (((x1 = 1) ∧ (z = 1)) ∨ ((¬ x1 = 1) ∧ (((¬ x1 = 5) ∧ (z = 0)) ∨ ((x1 = 5) ∧ (z = 1)))))
def r_X12_isTest (x1 : Int) (A : St) (z : Int) : Prop := tr_r_X12_isTest x1 A z
theorem u_r_X12_isTest {x1 : Int} {A : St} {z : Int} (h : tr_r_X12_isTest x1 A z) : r_X12_isTest x1 A z := h
def q_X12_isTest (x1 : Int) (A : St) (z : Int) : Prop := r_X12_isTest x1 A z ∧ (0 ≤ z ∧ z ≤ 1)
def ws_mc_X12_isTest : List Cond := .code yX12_isTest cX12_isTest 1 (some .boolean) :: WX
set_option maxHeartbeats 4000000 in
set_option maxRecDepth 100000 in
theorem mc_X12_isTest (l : Launch) (dC : Nat → ClassId) (dI : Nat → Nat → Nat) (cB cI cJ cZ cQ : ClassId) (q : Nat → Nat) (A : St) (x1 : Int) (hI : IM A) (hx1 : (-2147483648 : Int) ≤ x1 ∧ x1 ≤ 2147483647) : XMi l yX12_isTest ws_mc_X12_isTest ({ frames := 0, cells := 0, slots := 0, locals := 0 } : Room) (dC, dI) (tyA cB cI cJ cZ cQ) (WM cI cJ cZ q) A [.int (iI x1)] (fun z u => A = u ∧ r_X12_isTest x1 A z ∧ (0 ≤ z ∧ z ≤ 1)) := by
  refine x_metz (cc := cX12_isTest) (maxL := 1) WM_adr (by decide +kernel) rfl (Nat.le_of_ble_eq_true rfl) (fun z u h => h.2.2) (fun p e s m below meth c Q AS ls hx hb hml hown hts hK hDD hA0 hP hS hl RET => ?_)
  have hown : s.vm.findClass RX12 = some m.cls := hown
  have hl : lv_has ls 1 [(0, .int (iI x1))] := hl
  obtain ⟨H, hHe⟩ : ∃ H : Heap, H = s.heap := ⟨_, rfl⟩
  rw [← hHe] at hP
  have hS : va_S AS s.heap H [] := by rw [hHe]; exact hS
  suffices hgo : ∀ locs : List Loc, va_S AS s.heap H locs → W p l e (headSpec ws_mc_X12_isTest ({ frames := 0, cells := 0, slots := 0, locals := 0 } : Room)).room s m [.int (iI x1)].toArray below meth c H locs 0 0 Q (F0 m 0 ls []) by
    have := hgo [] hS
    rw [hHe] at this
    exact this
  clear hS hHe
  intro locs hS
  refine lv_iload_n hx hb dX12_isTest_0 rfl (lv_at hl 0 rfl) ?_
  refine lv_iconst (v := iI 1) hx hb dX12_isTest_1 (by decide +kernel) ?_
  refine lv_icmp_eq (tgt := 10) hx hb dX12_isTest_2 (by decide) (fun c1 => ?_) (fun c1 => ?_)
  · have c1 : x1 = 1 := (i_eq hx1 ⟨by decide, by decide⟩).mp c1
    refine lv_iconst (v := iI 1) hx hb dX12_isTest_10 (by decide +kernel) ?_
    refine lv_goto (tgt := 15) hx hb dX12_isTest_11 (by decide) ?_
    exact RET 1 _ _ _ _ _ ⟨rfl, (u_r_X12_isTest (Or.inl ⟨c1, rfl⟩)), by omega⟩ hP hS dX12_isTest_15
  · have c1 : ¬ x1 = 1 := mt (i_eq hx1 ⟨by decide, by decide⟩).mpr c1
    refine lv_iload_n hx hb dX12_isTest_5 rfl (lv_at hl 0 rfl) ?_
    refine lv_iconst (v := iI 5) hx hb dX12_isTest_6 (by decide +kernel) ?_
    refine lv_icmp_ne (tgt := 14) hx hb dX12_isTest_7 (by decide) (fun c2 => ?_) (fun c2 => ?_)
    · have c2 : ¬ x1 = 5 := mt (i_eq hx1 ⟨by decide, by decide⟩).mpr c2
      refine lv_iconst (v := iI 0) hx hb dX12_isTest_14 (by decide +kernel) ?_
      exact RET 0 _ _ _ _ _ ⟨rfl, (u_r_X12_isTest (Or.inr ⟨c1, (Or.inl ⟨c2, rfl⟩)⟩)), by omega⟩ hP hS dX12_isTest_15
    · have c2 : x1 = 5 := (i_eq hx1 ⟨by decide, by decide⟩).mp c2
      refine lv_iconst (v := iI 1) hx hb dX12_isTest_10 (by decide +kernel) ?_
      refine lv_goto (tgt := 15) hx hb dX12_isTest_11 (by decide) ?_
      exact RET 1 _ _ _ _ _ ⟨rfl, (u_r_X12_isTest (Or.inr ⟨c1, (Or.inr ⟨c2, rfl⟩)⟩)), by omega⟩ hP hS dX12_isTest_15
/-! How many states have been come to. -/
def cn (f : Nat → Int) : Nat → Nat
  | 0 => 0
  | n + 1 => cn f n + (if f n = -1 then 0 else 1)
theorem cn_le (f : Nat → Int) : ∀ n, cn f n ≤ n
  | 0 => Nat.le_refl _
  | n + 1 => by
    have := cn_le f n
    unfold cn
    split <;> omega
theorem cn_lt {f : Nat → Int} {i : Nat} (h : f i = -1) : ∀ n, i < n → cn f n < n
  | 0, hi => by omega
  | n + 1, hi => by
    unfold cn
    by_cases e : i = n
    · subst e
      have := cn_le f i
      rw [if_pos h]
      omega
    · have := cn_lt h n (by omega)
      split <;> omega
theorem cn_out {f : Nat → Int} {i : Nat} {v : Int} : ∀ n, n ≤ i → cn (up f i v) n = cn f n
  | 0, _ => rfl
  | n + 1, h => by
    unfold cn
    rw [cn_out n (by omega), up_ne _ _ (show n ≠ i by omega)]
theorem cn_up {f : Nat → Int} {i : Nat} {v : Int} (h : f i = -1) (hv : v ≠ -1) : ∀ n, i < n → cn (up f i v) n = cn f n + 1
  | 0, hi => by omega
  | n + 1, hi => by
    unfold cn
    by_cases e : i = n
    · subst e
      rw [cn_out i (Nat.le_refl _), up_same, if_neg hv, if_pos h]
    · rw [cn_up h hv n (by omega), up_ne _ _ (show n ≠ i by omega)]
      omega
theorem cn_none {f : Nat → Int} : ∀ n, (∀ i, i < n → f i = -1) → cn f n = 0
  | 0, _ => rfl
  | n + 1, h => by
    unfold cn
    rw [cn_none n (fun i hi => h i (by omega)), if_pos (h n (by omega))]
/-- the queue: as long as the number of states come to; each was come to by no more acts than its place -/
def QI (A : St) : Prop := A 0 66 = (cn (A 47) 76832 : Int) ∧ ∀ j : Nat, (j : Int) < A 0 66 → 0 ≤ A 47 (A 48 j).toNat ∧ A 47 (A 48 j).toNat ≤ (j : Int)
theorem QI.fr {M N : List Nat} {A B : St} (h : QI A) (f : fr M N A B) (h1 : M.contains 47 = false) (h2 : M.contains 48 = false) (h3 : N.contains 66 = false) : QI B := by
  unfold QI
  rw [f.1 47 (by decide) h1, f.1 48 (by decide) h2, f.2 66 h3]
  exact h
theorem QI.room {A : St} (h : QI A) {s : Int} (hs : 0 ≤ s ∧ s ≤ 76831) (ha : A 47 s.toNat = -1) : A 0 66 < 76832 := by
  have := cn_lt ha 76832 (by omega)
  have := h.1
  omega
theorem QI.push0 {A : St} (h : QI A) {s b : Int} (hs : 0 ≤ s ∧ s ≤ 76831) (ha : A 47 s.toNat = -1) (hb : 0 ≤ b ∧ b ≤ A 0 66) : QI (stA (stA (stA A 47 s.toNat b) 48 (A 0 66).toNat s) 0 66 (A 0 66 + 1)) := by
  have h66 : (stA (stA (stA A 47 s.toNat b) 48 (A 0 66).toNat s) 0 66 (A 0 66 + 1)) 0 66 = A 0 66 + 1 := rfl
  have h47 : (stA (stA (stA A 47 s.toNat b) 48 (A 0 66).toNat s) 0 66 (A 0 66 + 1)) 47 = up (A 47) s.toNat b := rfl
  have h48 : (stA (stA (stA A 47 s.toNat b) 48 (A 0 66).toNat s) 0 66 (A 0 66 + 1)) 48 = up (A 48) (A 0 66).toNat s := rfl
  have hq0 : 0 ≤ A 0 66 := by have := h.1; omega
  unfold QI
  rw [h66, h47, h48]
  refine ⟨?_, fun j hj => ?_⟩
  · rw [cn_up ha (by omega) 76832 (by omega)]
    have := h.1
    omega
  · by_cases e : j = (A 0 66).toNat
    · subst e
      rw [up_same, up_same]
      omega
    · rw [up_ne _ _ e]
      have hj' : (j : Int) < A 0 66 := by omega
      have hk := h.2 j hj'
      by_cases e2 : (A 48 j).toNat = s.toNat
      · rw [e2, ha] at hk
        omega
      · rw [up_ne _ _ e2]
        exact hk
theorem QI.push {A : St} (h : QI A) {s b q : Int} (hq : A 0 66 = q) (hs : 0 ≤ s ∧ s ≤ 76831) (ha : A 47 s.toNat = -1) (hb : 0 ≤ b ∧ b ≤ q) : QI (stA (stA (stA A 47 s.toNat b) 48 q.toNat s) 0 66 (q + 1)) := by
  subst hq
  exact QI.push0 h hs ha hb
theorem QI.start {A : St} (h : ∀ i : Nat, i < 76832 → A 47 i = -1) (h0 : A 0 66 = 0) : QI A := by
  refine ⟨?_, fun j hj => by omega⟩
  rw [h0, cn_none 76832 h]
  rfl
theorem dX12_comes_0 : decode cX12_comes 0 = .ok (.aload_n 0, 1) := by decide +kernel
theorem dX12_comes_1 : decode cX12_comes 1 = .ok (.invokevirtual 570, 3) := by decide +kernel
theorem dX12_comes_4 : decode cX12_comes 4 = .ok (.aload_n 0, 1) := by decide +kernel
theorem dX12_comes_5 : decode cX12_comes 5 = .ok (.invokevirtual 573, 3) := by decide +kernel
theorem dX12_comes_8 : decode cX12_comes 8 = .ok (.istore_n 2, 1) := by decide +kernel
theorem dX12_comes_9 : decode cX12_comes 9 = .ok (.aload_n 0, 1) := by decide +kernel
theorem dX12_comes_10 : decode cX12_comes 10 = .ok (.getfield 208, 3) := by decide +kernel
theorem dX12_comes_13 : decode cX12_comes 13 = .ok (.iload_n 2, 1) := by decide +kernel
theorem dX12_comes_14 : decode cX12_comes 14 = .ok (.iaload, 1) := by decide +kernel
theorem dX12_comes_15 : decode cX12_comes 15 = .ok (.iconst (-1), 1) := by decide +kernel
theorem dX12_comes_16 : decode cX12_comes 16 = .ok (.if_icmp .eq 4, 3) := by decide +kernel
theorem dX12_comes_19 : decode cX12_comes 19 = .ok (.return_, 1) := by decide +kernel
theorem dX12_comes_20 : decode cX12_comes 20 = .ok (.aload_n 0, 1) := by decide +kernel
theorem dX12_comes_21 : decode cX12_comes 21 = .ok (.getfield 208, 3) := by decide +kernel
theorem dX12_comes_24 : decode cX12_comes 24 = .ok (.iload_n 2, 1) := by decide +kernel
theorem dX12_comes_25 : decode cX12_comes 25 = .ok (.iload_n 1, 1) := by decide +kernel
theorem dX12_comes_26 : decode cX12_comes 26 = .ok (.iastore, 1) := by decide +kernel
theorem dX12_comes_27 : decode cX12_comes 27 = .ok (.aload_n 0, 1) := by decide +kernel
theorem dX12_comes_28 : decode cX12_comes 28 = .ok (.getfield 211, 3) := by decide +kernel
theorem dX12_comes_31 : decode cX12_comes 31 = .ok (.aload_n 0, 1) := by decide +kernel
theorem dX12_comes_32 : decode cX12_comes 32 = .ok (.getfield 214, 3) := by decide +kernel
theorem dX12_comes_35 : decode cX12_comes 35 = .ok (.iload_n 2, 1) := by decide +kernel
theorem dX12_comes_36 : decode cX12_comes 36 = .ok (.iastore, 1) := by decide +kernel
theorem dX12_comes_37 : decode cX12_comes 37 = .ok (.aload_n 0, 1) := by decide +kernel
theorem dX12_comes_38 : decode cX12_comes 38 = .ok (.dup, 1) := by decide +kernel
theorem dX12_comes_39 : decode cX12_comes 39 = .ok (.getfield 214, 3) := by decide +kernel
theorem dX12_comes_42 : decode cX12_comes 42 = .ok (.iconst 1, 1) := by decide +kernel
theorem dX12_comes_43 : decode cX12_comes 43 = .ok (.iadd, 1) := by decide +kernel
theorem dX12_comes_44 : decode cX12_comes 44 = .ok (.putfield 214, 3) := by decide +kernel
theorem dX12_comes_47 : decode cX12_comes 47 = .ok (.return_, 1) := by decide +kernel
abbrev tr_r_X12_comes (x1 : Int) (A : St) (u : St) : Prop := (∃ A1 : St, q_X12_haves A A1 ∧ (∃ z4 : Int, q_X12_state A1 z4 ∧ (∃ z7 : Int, z7 = A1 47 (z4).toNat ∧ (((z7 = (-1)) ∧ (∃ A9 : St, A9 = (stA (stA (stA A1 47 (z4).toNat x1) 48 ((A 0 66)).toNat z4) 0 66 ((A 0 66) + 1)) ∧ (u = A9))) ∨ ((¬ z7 = (-1)) ∧ (u = A1))))))
def r_X12_comes (x1 : Int) (A : St) (u : St) : Prop := tr_r_X12_comes x1 A u
theorem u_r_X12_comes {x1 : Int} {A : St} {u : St} (h : tr_r_X12_comes x1 A u) : r_X12_comes x1 A u := h
def q_X12_comes (x1 : Int) (A : St) (u : St) : Prop := r_X12_comes x1 A u ∧ IM u ∧ fr [47, 48] [66, 69] A u ∧ (QI u ∧ A 0 66 ≤ u 0 66)
def ws_mc_X12_comes : List Cond := .code yX12_comes cX12_comes 3 none :: WX
set_option maxHeartbeats 4000000 in
set_option maxRecDepth 100000 in
theorem mc_X12_comes (l : Launch) (dC : Nat → ClassId) (dI : Nat → Nat → Nat) (cB cI cJ cZ cQ : ClassId) (q : Nat → Nat) (A : St) (x1 : Int) (hI : IM A) (hx1 : (0 : Int) ≤ x1 ∧ x1 ≤ 76832) (hp0 : QI A) (hp1 : x1 ≤ A 0 66) : XMv l yX12_comes ws_mc_X12_comes ({ frames := 3, cells := 0, slots := 0, locals := 67 } : Room) (dC, dI) (tyA cB cI cJ cZ cQ) (WM cI cJ cZ q) A [.ref (q 0), .int (iI x1)] (fun u => r_X12_comes x1 A u ∧ IM u ∧ fr [47, 48] [66, 69] A u ∧ (QI u ∧ A 0 66 ≤ u 0 66)) := by
  refine x_metv (cc := cX12_comes) (maxL := 3) WM_adr (by decide +kernel) rfl (Nat.le_of_ble_eq_true rfl) (fun p e s m below meth c Q AS ls hx hb hml hown hts hK hDD hA0 hP hS hl RET => ?_)
  have hown : s.vm.findClass RX12 = some m.cls := hown
  have hl : lv_has ls 3 [(0, .ref (q 0)), (1, .int (iI x1))] := hl
  have hiX12 : ∀ w ∈ u_ws RX12 TX12 85, w ∈ ws_mc_X12_comes := fun w h => List.mem_cons_of_mem _ (wx_lay w h)
  obtain ⟨H, hHe⟩ : ∃ H : Heap, H = s.heap := ⟨_, rfl⟩
  rw [← hHe] at hP
  have hS : va_S AS s.heap H [] := by rw [hHe]; exact hS
  suffices hgo : ∀ locs : List Loc, va_S AS s.heap H locs → W p l e (headSpec ws_mc_X12_comes ({ frames := 3, cells := 0, slots := 0, locals := 67 } : Room)).room s m [.ref (q 0), .int (iI x1)].toArray below meth c H locs 0 0 Q (F0 m 0 ls []) by
    have := hgo [] hS
    rw [hHe] at this
    exact this
  clear hS hHe
  intro locs hS
  refine lv_aload_n hx hb dX12_comes_0 rfl (lv_at hl 0 rfl) ?_
  refine x_callv (As := []) (rest := []) ⟨hx, hb, hml, hown, hts⟩ (mc_X12_haves l dC dI cB cI cJ cZ cQ q _ hI) (cwV 0 hts (goodV (wl_in_6 _ (List.mem_of_getElem? (i := 54) rfl)) (wl_in_6 _ (List.mem_of_getElem? (i := 55) rfl)) (wl_in_6 _ (List.mem_of_getElem? (i := 56) rfl)) (wl_in_0 _ (List.mem_of_getElem? (i := 8) rfl)) (wl_in_6 _ (List.mem_of_getElem? (i := 47) rfl))) rfl rfl rfl (by decide +kernel) ⟨Nat.le_of_ble_eq_true rfl, Nat.le_of_ble_eq_true rfl⟩) hK hDD hA0 hP hS 0 12 wm0 rfl rfl hl.1 (Nat.le_of_ble_eq_true rfl) dX12_comes_1 (fun A1 H locs hw2 hP hS => ?_)
  have ghw2 : q_X12_haves A A1 := hw2
  obtain ⟨_, hI, hf3, hw2⟩ := hw2
  clear hw2
  refine lv_aload_n hx hb dX12_comes_4 rfl (lv_at hl 0 rfl) ?_
  refine x_calli (As := []) (rest := []) ⟨hx, hb, hml, hown, hts⟩ (mc_X12_state l dC dI cB cI cJ cZ cQ q _ hI) (cwV 0 hts (goodV (wl_in_6 _ (List.mem_of_getElem? (i := 57) rfl)) (wl_in_6 _ (List.mem_of_getElem? (i := 58) rfl)) (wl_in_6 _ (List.mem_of_getElem? (i := 59) rfl)) (wl_in_0 _ (List.mem_of_getElem? (i := 8) rfl)) (wl_in_6 _ (List.mem_of_getElem? (i := 37) rfl))) rfl rfl rfl (by decide +kernel) ⟨Nat.le_of_ble_eq_true rfl, Nat.le_of_ble_eq_true rfl⟩) hK hDD hA0 hP hS 0 12 wm0 rfl rfl hl.1 (Nat.le_of_ble_eq_true rfl) dX12_comes_5 (fun z4 A5 H locs hw6 hP hS => ?_)
  obtain ⟨rfl, hw6⟩ := hw6
  have ghw6 : q_X12_state A1 z4 := hw6
  have hw6 := hw6.2
  refine lv_istore_n (lv' := [(2, .int (iI z4)), (0, .ref (q 0)), (1, .int (iI x1))]) hx hb dX12_comes_8 rfl hl (by decide) rfl (fun ls hl => ?_)
  refine lv_aload_n hx hb dX12_comes_9 rfl (lv_at hl 1 rfl) ?_
  refine va_get (D := (dC, dI)) (ci := 12) (v := .ref (q 47)) (C := RX12) (T := TX12) (N := 85) hx hb hts hiX12 hown hK hP 0 wm0 rfl 64 (by decide) (hts _ (List.mem_cons_of_mem _ (wl_in_6 _ (List.mem_of_getElem? (i := 51) rfl)))) (fun _ h9 => h9) rfl dX12_comes_10 ?_
  refine lv_iload_n hx hb dX12_comes_13 rfl (lv_at hl 0 rfl) ?_
  have a_A1_47 : A1 47 = A 47 := (hf3.1 47 (by decide) rfl)
  refine x_iald hx hb hK hP 47 1 wm47 rfl (by omega) (by decide) dX12_comes_14 (fun z7 hz7 => ?_)
  have rz7 : (-1 : Int) ≤ z7 ∧ z7 ≤ 76832 := by rw [hz7]; exact hI 47 _
  have gz7 := Hd.mk hz7
  have hz7 : z7 = A 47 (z4).toNat := hz7.trans (congrFun a_A1_47 _)
  refine lv_iconst (v := iI (-1)) hx hb dX12_comes_15 (by decide +kernel) ?_
  refine lv_icmp_eq (tgt := 20) hx hb dX12_comes_16 (by decide) (fun c8 => ?_) (fun c8 => ?_)
  · have c8 : z7 = (-1) := (i_eq (rb rz7 (by decide) (by decide)) ⟨by decide, by decide⟩).mp c8
    have hroom : A 0 66 < 76832 := QI.room hp0 (s := z4) (by omega) (by omega)
    refine lv_aload_n hx hb dX12_comes_20 rfl (lv_at hl 1 rfl) ?_
    refine va_get (D := (dC, dI)) (ci := 12) (v := .ref (q 47)) (C := RX12) (T := TX12) (N := 85) hx hb hts hiX12 hown hK hP 0 wm0 rfl 64 (by decide) (hts _ (List.mem_cons_of_mem _ (wl_in_6 _ (List.mem_of_getElem? (i := 51) rfl)))) (fun _ h9 => h9) rfl dX12_comes_21 ?_
    refine lv_iload_n hx hb dX12_comes_24 rfl (lv_at hl 0 rfl) ?_
    refine lv_iload_n hx hb dX12_comes_25 rfl (lv_at hl 2 rfl) ?_
    refine x_iast hx hb hK hP hDD hS 47 1 wm47 rfl (by omega) (by decide) dX12_comes_26 ws47 (fun H locs hP hS => ?_)
    have hI := hI.st (j := 47) (i := (z4).toNat) (v := x1) (show (-1 : Int) ≤ x1 ∧ x1 ≤ 76832 from (by omega))
    refine lv_aload_n hx hb dX12_comes_27 rfl (lv_at hl 1 rfl) ?_
    refine va_get (D := (dC, dI)) (ci := 12) (v := .ref (q 48)) (C := RX12) (T := TX12) (N := 85) hx hb hts hiX12 hown hK hP 0 wm0 rfl 65 (by decide) (hts _ (List.mem_cons_of_mem _ (wl_in_6 _ (List.mem_of_getElem? (i := 52) rfl)))) (fun _ h9 => h9) rfl dX12_comes_28 ?_
    refine lv_aload_n hx hb dX12_comes_31 rfl (lv_at hl 1 rfl) ?_
    have e_A1_66 : A1 0 66 = (A 0 66) := (hf3.2 66 rfl)
    refine va_get (D := (dC, dI)) (ci := 12) (v := .int (iI (A1 0 66))) (C := RX12) (T := TX12) (N := 85) hx hb hts hiX12 hown hK hP 0 wm0 rfl 66 (by decide) (hts _ (List.mem_cons_of_mem _ (wl_in_6 _ (List.mem_of_getElem? (i := 53) rfl)))) (fun _ h9 => h9) rfl dX12_comes_32 ?_
    refine tp_i (y := iI (A 0 66)) (congrArg iI e_A1_66) ?_
    have r_A_0_66 : (0 : Int) ≤ (A 0 66) ∧ (A 0 66) ≤ 76832 := by rw [← e_A1_66]; exact hI 0 66
    refine lv_iload_n hx hb dX12_comes_35 rfl (lv_at hl 0 rfl) ?_
    refine x_iast hx hb hK hP hDD hS 48 1 wm48 rfl (by omega) (by decide) dX12_comes_36 ws48 (fun H locs hP hS => ?_)
    have hI := hI.st (j := 48) (i := ((A 0 66)).toNat) (v := z4) (show (0 : Int) ≤ z4 ∧ z4 ≤ 76831 from (by omega))
    refine lv_aload_n hx hb dX12_comes_37 rfl (lv_at hl 1 rfl) ?_
    refine lv_dup hx hb dX12_comes_38 rfl ?_
    refine va_get (D := (dC, dI)) (ci := 12) (v := .int (iI (A1 0 66))) (C := RX12) (T := TX12) (N := 85) hx hb hts hiX12 hown hK hP 0 wm0 rfl 66 (by decide) (hts _ (List.mem_cons_of_mem _ (wl_in_6 _ (List.mem_of_getElem? (i := 53) rfl)))) (fun _ h9 => h9) rfl dX12_comes_39 ?_
    refine tp_i (y := iI (A 0 66)) (congrArg iI e_A1_66) ?_
    refine lv_iconst (v := iI 1) hx hb dX12_comes_42 (by decide +kernel) ?_
    refine x_addv (v := (A 0 66) + 1) hx hb dX12_comes_43 (by omega) ?_
    refine x_put (D := (dC, dI)) (ci := 12) (v := .int (iI ((A 0 66) + 1))) (ty := .int) (C := RX12) (T := TX12) (N := 85) hx hb hts hiX12 tyX12 tyX12_ok nmX12 hown hK hP hDD hS 0 wm0 rfl 66 (by decide) (hts _ (List.mem_cons_of_mem _ (wl_in_6 _ (List.mem_of_getElem? (i := 53) rfl)))) (fun _ h9 => h9) rfl (by decide +kernel) rfl rfl (Nat.le_of_ble_eq_true rfl) dX12_comes_44 (wf66 (v := (A 0 66) + 1)) (fun H locs hP hS => ?_)
    have hI := hI.st (j := 0) (i := 66) (v := (A 0 66) + 1) (show (0 : Int) ≤ (A 0 66) + 1 ∧ (A 0 66) + 1 ≤ 76832 from (by omega))
    obtain ⟨A9, hA9⟩ : ∃ A9 : St, A9 = (stA (stA (stA A1 47 (z4).toNat x1) 48 ((A 0 66)).toNat z4) 0 66 ((A 0 66) + 1)) := ⟨_, rfl⟩
    rw [← hA9] at hP hI
    have e_A9_66 : A9 0 66 = (A 0 66) + 1 := by rw [hA9]; rfl
    exact RET _ _ _ _ _ ⟨(u_r_X12_comes ⟨A1, ghw2, ⟨z4, ghw6, ⟨z7, gz7.out, (Or.inl ⟨c8, ⟨A9, hA9, rfl⟩⟩)⟩⟩⟩), hI, fr_def hA9 (fr.sf (fr.st (fr.st (fr.trans (fr.rf) hf3 rfl rfl) (by decide) rfl) (by decide) rfl) rfl), ⟨by rw [hA9]; exact QI.push (QI.fr (M := []) (N := [69]) hp0 (fr.trans (fr.rf) hf3 rfl rfl) rfl rfl rfl) e_A1_66 (by omega) (by rw [a_A1_47]; omega) (by omega), by omega⟩⟩ hP hS dX12_comes_47
  · have c8 : ¬ z7 = (-1) := mt (i_eq (rb rz7 (by decide) (by decide)) ⟨by decide, by decide⟩).mpr c8
    have e_A1_66 : A1 0 66 = (A 0 66) := (hf3.2 66 rfl)
    have r_A_0_66 : (0 : Int) ≤ (A 0 66) ∧ (A 0 66) ≤ 76832 := by rw [← e_A1_66]; exact hI 0 66
    exact RET _ _ _ _ _ ⟨(u_r_X12_comes ⟨A1, ghw2, ⟨z4, ghw6, ⟨z7, gz7.out, (Or.inr ⟨c8, rfl⟩)⟩⟩⟩), hI, fr.trans (fr.rf) hf3 rfl rfl, ⟨QI.fr (M := []) (N := [69]) hp0 (fr.trans (fr.rf) hf3 rfl rfl) rfl rfl rfl, by omega⟩⟩ hP hS dX12_comes_19
theorem dX12_losing_0 : decode cX12_losing 0 = .ok (.aload_n 0, 1) := by decide +kernel
theorem dX12_losing_1 : decode cX12_losing 1 = .ok (.iconst 0, 1) := by decide +kernel
theorem dX12_losing_2 : decode cX12_losing 2 = .ok (.invokevirtual 394, 3) := by decide +kernel
theorem dX12_losing_5 : decode cX12_losing 5 = .ok (.ifCond .ne 4, 3) := by decide +kernel
theorem dX12_losing_8 : decode cX12_losing 8 = .ok (.return_, 1) := by decide +kernel
theorem dX12_losing_9 : decode cX12_losing 9 = .ok (.aload_n 0, 1) := by decide +kernel
theorem dX12_losing_10 : decode cX12_losing 10 = .ok (.getfield 36, 3) := by decide +kernel
theorem dX12_losing_13 : decode cX12_losing 13 = .ok (.ifCond .ne 34, 3) := by decide +kernel
theorem dX12_losing_16 : decode cX12_losing 16 = .ok (.aload_n 0, 1) := by decide +kernel
theorem dX12_losing_17 : decode cX12_losing 17 = .ok (.getfield 20, 3) := by decide +kernel
theorem dX12_losing_20 : decode cX12_losing 20 = .ok (.iconst 1, 1) := by decide +kernel
theorem dX12_losing_21 : decode cX12_losing 21 = .ok (.if_icmp .ne 26, 3) := by decide +kernel
theorem dX12_losing_24 : decode cX12_losing 24 = .ok (.aload_n 0, 1) := by decide +kernel
theorem dX12_losing_25 : decode cX12_losing 25 = .ok (.aload_n 0, 1) := by decide +kernel
theorem dX12_losing_26 : decode cX12_losing 26 = .ok (.getfield 32, 3) := by decide +kernel
theorem dX12_losing_29 : decode cX12_losing 29 = .ok (.invokevirtual 387, 3) := by decide +kernel
theorem dX12_losing_32 : decode cX12_losing 32 = .ok (.ifCond .ne 15, 3) := by decide +kernel
theorem dX12_losing_35 : decode cX12_losing 35 = .ok (.aload_n 0, 1) := by decide +kernel
theorem dX12_losing_36 : decode cX12_losing 36 = .ok (.iconst 1, 1) := by decide +kernel
theorem dX12_losing_37 : decode cX12_losing 37 = .ok (.aload_n 0, 1) := by decide +kernel
theorem dX12_losing_38 : decode cX12_losing 38 = .ok (.getfield 32, 3) := by decide +kernel
theorem dX12_losing_41 : decode cX12_losing 41 = .ok (.invokevirtual 390, 3) := by decide +kernel
theorem dX12_losing_44 : decode cX12_losing 44 = .ok (.goto 4, 3) := by decide +kernel
theorem dX12_losing_47 : decode cX12_losing 47 = .ok (.iconst (-1), 1) := by decide +kernel
theorem dX12_losing_48 : decode cX12_losing 48 = .ok (.istore_n 1, 1) := by decide +kernel
theorem dX12_losing_49 : decode cX12_losing 49 = .ok (.iload_n 1, 1) := by decide +kernel
theorem dX12_losing_50 : decode cX12_losing 50 = .ok (.iconst (-1), 1) := by decide +kernel
theorem dX12_losing_51 : decode cX12_losing 51 = .ok (.if_icmp .eq 29, 3) := by decide +kernel
theorem dX12_losing_54 : decode cX12_losing 54 = .ok (.aload_n 0, 1) := by decide +kernel
theorem dX12_losing_55 : decode cX12_losing 55 = .ok (.getfield 77, 3) := by decide +kernel
theorem dX12_losing_58 : decode cX12_losing 58 = .ok (.bipush 10, 2) := by decide +kernel
theorem dX12_losing_60 : decode cX12_losing 60 = .ok (.aload_n 0, 1) := by decide +kernel
theorem dX12_losing_61 : decode cX12_losing 61 = .ok (.getfield 155, 3) := by decide +kernel
theorem dX12_losing_64 : decode cX12_losing 64 = .ok (.imul, 1) := by decide +kernel
theorem dX12_losing_65 : decode cX12_losing 65 = .ok (.iload_n 1, 1) := by decide +kernel
theorem dX12_losing_66 : decode cX12_losing 66 = .ok (.iadd, 1) := by decide +kernel
theorem dX12_losing_67 : decode cX12_losing 67 = .ok (.baload, 1) := by decide +kernel
theorem dX12_losing_68 : decode cX12_losing 68 = .ok (.ifCond .eq 12, 3) := by decide +kernel
theorem dX12_losing_71 : decode cX12_losing 71 = .ok (.aload_n 0, 1) := by decide +kernel
theorem dX12_losing_72 : decode cX12_losing 72 = .ok (.iconst 3, 1) := by decide +kernel
theorem dX12_losing_73 : decode cX12_losing 73 = .ok (.aload_n 0, 1) := by decide +kernel
theorem dX12_losing_74 : decode cX12_losing 74 = .ok (.getfield 23, 3) := by decide +kernel
theorem dX12_losing_77 : decode cX12_losing 77 = .ok (.invokevirtual 286, 3) := by decide +kernel
theorem dX12_losing_80 : decode cX12_losing 80 = .ok (.aload_n 0, 1) := by decide +kernel
theorem dX12_losing_81 : decode cX12_losing 81 = .ok (.iconst 1, 1) := by decide +kernel
theorem dX12_losing_82 : decode cX12_losing 82 = .ok (.invokevirtual 406, 3) := by decide +kernel
theorem dX12_losing_85 : decode cX12_losing 85 = .ok (.istore_n 1, 1) := by decide +kernel
theorem dX12_losing_86 : decode cX12_losing 86 = .ok (.aload_n 0, 1) := by decide +kernel
theorem dX12_losing_87 : decode cX12_losing 87 = .ok (.getfield 36, 3) := by decide +kernel
theorem dX12_losing_90 : decode cX12_losing 90 = .ok (.ifCond .ne 18, 3) := by decide +kernel
theorem dX12_losing_93 : decode cX12_losing 93 = .ok (.aload_n 0, 1) := by decide +kernel
theorem dX12_losing_94 : decode cX12_losing 94 = .ok (.getfield 77, 3) := by decide +kernel
theorem dX12_losing_97 : decode cX12_losing 97 = .ok (.bipush 10, 2) := by decide +kernel
theorem dX12_losing_99 : decode cX12_losing 99 = .ok (.aload_n 0, 1) := by decide +kernel
theorem dX12_losing_100 : decode cX12_losing 100 = .ok (.getfield 155, 3) := by decide +kernel
theorem dX12_losing_103 : decode cX12_losing 103 = .ok (.imul, 1) := by decide +kernel
theorem dX12_losing_104 : decode cX12_losing 104 = .ok (.iload_n 1, 1) := by decide +kernel
theorem dX12_losing_105 : decode cX12_losing 105 = .ok (.iadd, 1) := by decide +kernel
theorem dX12_losing_106 : decode cX12_losing 106 = .ok (.iconst 1, 1) := by decide +kernel
theorem dX12_losing_107 : decode cX12_losing 107 = .ok (.bastore, 1) := by decide +kernel
theorem dX12_losing_108 : decode cX12_losing 108 = .ok (.return_, 1) := by decide +kernel
theorem dX12_key_0 : decode cX12_key 0 = .ok (.aload_n 0, 1) := by decide +kernel
theorem dX12_key_1 : decode cX12_key 1 = .ok (.aload_n 0, 1) := by decide +kernel
theorem dX12_key_2 : decode cX12_key 2 = .ok (.getfield 80, 3) := by decide +kernel
theorem dX12_key_5 : decode cX12_key 5 = .ok (.aload_n 0, 1) := by decide +kernel
theorem dX12_key_6 : decode cX12_key 6 = .ok (.getfield 155, 3) := by decide +kernel
theorem dX12_key_9 : decode cX12_key 9 = .ok (.iaload, 1) := by decide +kernel
theorem dX12_key_10 : decode cX12_key 10 = .ok (.iconst 4, 1) := by decide +kernel
theorem dX12_key_11 : decode cX12_key 11 = .ok (.if_icmp .ne 7, 3) := by decide +kernel
theorem dX12_key_14 : decode cX12_key 14 = .ok (.iconst 1, 1) := by decide +kernel
theorem dX12_key_15 : decode cX12_key 15 = .ok (.goto 4, 3) := by decide +kernel
theorem dX12_key_18 : decode cX12_key 18 = .ok (.iconst 0, 1) := by decide +kernel
theorem dX12_key_19 : decode cX12_key 19 = .ok (.invokevirtual 394, 3) := by decide +kernel
theorem dX12_key_22 : decode cX12_key 22 = .ok (.ifCond .ne 4, 3) := by decide +kernel
theorem dX12_key_25 : decode cX12_key 25 = .ok (.return_, 1) := by decide +kernel
theorem dX12_key_26 : decode cX12_key 26 = .ok (.iconst 4, 1) := by decide +kernel
theorem dX12_key_27 : decode cX12_key 27 = .ok (.aload_n 0, 1) := by decide +kernel
theorem dX12_key_28 : decode cX12_key 28 = .ok (.getfield 155, 3) := by decide +kernel
theorem dX12_key_31 : decode cX12_key 31 = .ok (.imul, 1) := by decide +kernel
theorem dX12_key_32 : decode cX12_key 32 = .ok (.aload_n 0, 1) := by decide +kernel
theorem dX12_key_33 : decode cX12_key 33 = .ok (.getfield 80, 3) := by decide +kernel
theorem dX12_key_36 : decode cX12_key 36 = .ok (.aload_n 0, 1) := by decide +kernel
theorem dX12_key_37 : decode cX12_key 37 = .ok (.getfield 155, 3) := by decide +kernel
theorem dX12_key_40 : decode cX12_key 40 = .ok (.iaload, 1) := by decide +kernel
theorem dX12_key_41 : decode cX12_key 41 = .ok (.iadd, 1) := by decide +kernel
theorem dX12_key_42 : decode cX12_key 42 = .ok (.istore_n 1, 1) := by decide +kernel
theorem dX12_key_43 : decode cX12_key 43 = .ok (.aload_n 0, 1) := by decide +kernel
theorem dX12_key_44 : decode cX12_key 44 = .ok (.getfield 83, 3) := by decide +kernel
theorem dX12_key_47 : decode cX12_key 47 = .ok (.iload_n 1, 1) := by decide +kernel
theorem dX12_key_48 : decode cX12_key 48 = .ok (.aload_n 0, 1) := by decide +kernel
theorem dX12_key_49 : decode cX12_key 49 = .ok (.invokevirtual 398, 3) := by decide +kernel
theorem dX12_key_52 : decode cX12_key 52 = .ok (.lastore, 1) := by decide +kernel
theorem dX12_key_53 : decode cX12_key 53 = .ok (.aload_n 0, 1) := by decide +kernel
theorem dX12_key_54 : decode cX12_key 54 = .ok (.getfield 86, 3) := by decide +kernel
theorem dX12_key_57 : decode cX12_key 57 = .ok (.iload_n 1, 1) := by decide +kernel
theorem dX12_key_58 : decode cX12_key 58 = .ok (.aload_n 0, 1) := by decide +kernel
theorem dX12_key_59 : decode cX12_key 59 = .ok (.invokevirtual 415, 3) := by decide +kernel
theorem dX12_key_62 : decode cX12_key 62 = .ok (.iastore, 1) := by decide +kernel
theorem dX12_key_63 : decode cX12_key 63 = .ok (.aload_n 0, 1) := by decide +kernel
theorem dX12_key_64 : decode cX12_key 64 = .ok (.getfield 89, 3) := by decide +kernel
theorem dX12_key_67 : decode cX12_key 67 = .ok (.iload_n 1, 1) := by decide +kernel
theorem dX12_key_68 : decode cX12_key 68 = .ok (.iconst 0, 1) := by decide +kernel
theorem dX12_key_69 : decode cX12_key 69 = .ok (.iastore, 1) := by decide +kernel
theorem dX12_key_70 : decode cX12_key 70 = .ok (.aload_n 0, 1) := by decide +kernel
theorem dX12_key_71 : decode cX12_key 71 = .ok (.getfield 36, 3) := by decide +kernel
theorem dX12_key_74 : decode cX12_key 74 = .ok (.ifCond .ne 16, 3) := by decide +kernel
theorem dX12_key_77 : decode cX12_key 77 = .ok (.aload_n 0, 1) := by decide +kernel
theorem dX12_key_78 : decode cX12_key 78 = .ok (.getfield 80, 3) := by decide +kernel
theorem dX12_key_81 : decode cX12_key 81 = .ok (.aload_n 0, 1) := by decide +kernel
theorem dX12_key_82 : decode cX12_key 82 = .ok (.getfield 155, 3) := by decide +kernel
theorem dX12_key_85 : decode cX12_key 85 = .ok (.dup2, 1) := by decide +kernel
theorem dX12_key_86 : decode cX12_key 86 = .ok (.iaload, 1) := by decide +kernel
theorem dX12_key_87 : decode cX12_key 87 = .ok (.iconst 1, 1) := by decide +kernel
theorem dX12_key_88 : decode cX12_key 88 = .ok (.iadd, 1) := by decide +kernel
theorem dX12_key_89 : decode cX12_key 89 = .ok (.iastore, 1) := by decide +kernel
theorem dX12_key_90 : decode cX12_key 90 = .ok (.return_, 1) := by decide +kernel
