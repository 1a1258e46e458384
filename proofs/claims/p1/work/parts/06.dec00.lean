theorem dX1_survey_0 : decode cX1_survey 0 = .ok (.aload_n 0, 1) := by decide +kernel
theorem dX1_survey_1 : decode cX1_survey 1 = .ok (.iconst 0, 1) := by decide +kernel
theorem dX1_survey_2 : decode cX1_survey 2 = .ok (.putfield 29, 3) := by decide +kernel
theorem dX1_survey_5 : decode cX1_survey 5 = .ok (.aload_n 0, 1) := by decide +kernel
theorem dX1_survey_6 : decode cX1_survey 6 = .ok (.iconst 0, 1) := by decide +kernel
theorem dX1_survey_7 : decode cX1_survey 7 = .ok (.putfield 32, 3) := by decide +kernel
theorem dX1_survey_10 : decode cX1_survey 10 = .ok (.aload_n 0, 1) := by decide +kernel
theorem dX1_survey_11 : decode cX1_survey 11 = .ok (.iconst 0, 1) := by decide +kernel
theorem dX1_survey_12 : decode cX1_survey 12 = .ok (.putfield 35, 3) := by decide +kernel
theorem dX1_survey_15 : decode cX1_survey 15 = .ok (.iconst 1, 1) := by decide +kernel
theorem dX1_survey_16 : decode cX1_survey 16 = .ok (.istore_n 3, 1) := by decide +kernel
theorem dX1_survey_17 : decode cX1_survey 17 = .ok (.iconst 0, 1) := by decide +kernel
theorem dX1_survey_18 : decode cX1_survey 18 = .ok (.istore 4, 2) := by decide +kernel
theorem dX1_survey_20 : decode cX1_survey 20 = .ok (.iload 4, 2) := by decide +kernel
theorem dX1_survey_22 : decode cX1_survey 22 = .ok (.iconst 3, 1) := by decide +kernel
theorem dX1_survey_23 : decode cX1_survey 23 = .ok (.if_icmp .gt 52, 3) := by decide +kernel
theorem dX1_survey_26 : decode cX1_survey 26 = .ok (.iconst 0, 1) := by decide +kernel
theorem dX1_survey_27 : decode cX1_survey 27 = .ok (.istore 5, 2) := by decide +kernel
theorem dX1_survey_29 : decode cX1_survey 29 = .ok (.iload 5, 2) := by decide +kernel
theorem dX1_survey_31 : decode cX1_survey 31 = .ok (.iload_n 3, 1) := by decide +kernel
theorem dX1_survey_32 : decode cX1_survey 32 = .ok (.if_icmp .ge 28, 3) := by decide +kernel
theorem dX1_survey_35 : decode cX1_survey 35 = .ok (.aload_n 0, 1) := by decide +kernel
theorem dX1_survey_36 : decode cX1_survey 36 = .ok (.aload_n 1, 1) := by decide +kernel
theorem dX1_survey_37 : decode cX1_survey 37 = .ok (.iload 5, 2) := by decide +kernel
theorem dX1_survey_39 : decode cX1_survey 39 = .ok (.iload 4, 2) := by decide +kernel
theorem dX1_survey_41 : decode cX1_survey 41 = .ok (.invokevirtual 38, 3) := by decide +kernel
theorem dX1_survey_44 : decode cX1_survey 44 = .ok (.ifCond .eq 10, 3) := by decide +kernel
theorem dX1_survey_47 : decode cX1_survey 47 = .ok (.aload_n 0, 1) := by decide +kernel
theorem dX1_survey_48 : decode cX1_survey 48 = .ok (.iload 4, 2) := by decide +kernel
theorem dX1_survey_50 : decode cX1_survey 50 = .ok (.iload_n 2, 1) := by decide +kernel
theorem dX1_survey_51 : decode cX1_survey 51 = .ok (.invokevirtual 42, 3) := by decide +kernel
theorem dX1_survey_54 : decode cX1_survey 54 = .ok (.iinc 5 1, 3) := by decide +kernel
theorem dX1_survey_57 : decode cX1_survey 57 = .ok (.goto (-28), 3) := by decide +kernel
theorem dX1_survey_60 : decode cX1_survey 60 = .ok (.iload_n 3, 1) := by decide +kernel
theorem dX1_survey_61 : decode cX1_survey 61 = .ok (.aload_n 1, 1) := by decide +kernel
theorem dX1_survey_62 : decode cX1_survey 62 = .ok (.getfield 46, 3) := by decide +kernel
theorem dX1_survey_65 : decode cX1_survey 65 = .ok (.iconst 1, 1) := by decide +kernel
theorem dX1_survey_66 : decode cX1_survey 66 = .ok (.iaload, 1) := by decide +kernel
theorem dX1_survey_67 : decode cX1_survey 67 = .ok (.imul, 1) := by decide +kernel
theorem dX1_survey_68 : decode cX1_survey 68 = .ok (.istore_n 3, 1) := by decide +kernel
theorem dX1_survey_69 : decode cX1_survey 69 = .ok (.iinc 4 1, 3) := by decide +kernel
theorem dX1_survey_72 : decode cX1_survey 72 = .ok (.goto (-52), 3) := by decide +kernel
theorem dX1_survey_75 : decode cX1_survey 75 = .ok (.return_, 1) := by decide +kernel
theorem dX1_isRow_0 : decode cX1_isRow 0 = .ok (.aload_n 1, 1) := by decide +kernel
theorem dX1_isRow_1 : decode cX1_isRow 1 = .ok (.getfield 46, 3) := by decide +kernel
theorem dX1_isRow_4 : decode cX1_isRow 4 = .ok (.iconst 1, 1) := by decide +kernel
theorem dX1_isRow_5 : decode cX1_isRow 5 = .ok (.iaload, 1) := by decide +kernel
theorem dX1_isRow_6 : decode cX1_isRow 6 = .ok (.istore 4, 2) := by decide +kernel
theorem dX1_isRow_8 : decode cX1_isRow 8 = .ok (.iload_n 2, 1) := by decide +kernel
theorem dX1_isRow_9 : decode cX1_isRow 9 = .ok (.istore 5, 2) := by decide +kernel
theorem dX1_isRow_11 : decode cX1_isRow 11 = .ok (.iconst 0, 1) := by decide +kernel
theorem dX1_isRow_12 : decode cX1_isRow 12 = .ok (.istore 6, 2) := by decide +kernel
theorem dX1_isRow_14 : decode cX1_isRow 14 = .ok (.iload_n 3, 1) := by decide +kernel
theorem dX1_isRow_15 : decode cX1_isRow 15 = .ok (.iconst 1, 1) := by decide +kernel
theorem dX1_isRow_16 : decode cX1_isRow 16 = .ok (.isub, 1) := by decide +kernel
theorem dX1_isRow_17 : decode cX1_isRow 17 = .ok (.istore 7, 2) := by decide +kernel
theorem dX1_isRow_19 : decode cX1_isRow 19 = .ok (.iload 7, 2) := by decide +kernel
theorem dX1_isRow_21 : decode cX1_isRow 21 = .ok (.ifCond .lt 76, 3) := by decide +kernel
theorem dX1_isRow_97 : decode cX1_isRow 97 = .ok (.iconst 1, 1) := by decide +kernel
theorem dX1_isRow_98 : decode cX1_isRow 98 = .ok (.ireturn, 1) := by decide +kernel
theorem dX1_weigh_0 : decode cX1_weigh 0 = .ok (.aload_n 0, 1) := by decide +kernel
theorem dX1_weigh_1 : decode cX1_weigh 1 = .ok (.iload_n 1, 1) := by decide +kernel
theorem dX1_weigh_2 : decode cX1_weigh 2 = .ok (.invokevirtual 54, 3) := by decide +kernel
theorem dX1_weigh_5 : decode cX1_weigh 5 = .ok (.istore_n 3, 1) := by decide +kernel
theorem dX1_weigh_6 : decode cX1_weigh 6 = .ok (.iload_n 3, 1) := by decide +kernel
theorem dX1_weigh_7 : decode cX1_weigh 7 = .ok (.iconst (-1), 1) := by decide +kernel
theorem dX1_weigh_8 : decode cX1_weigh 8 = .ok (.if_icmp .ne 4, 3) := by decide +kernel
theorem dX1_weigh_12 : decode cX1_weigh 12 = .ok (.aload_n 0, 1) := by decide +kernel
theorem dX1_weigh_13 : decode cX1_weigh 13 = .ok (.getfield 29, 3) := by decide +kernel
theorem dX1_weigh_16 : decode cX1_weigh 16 = .ok (.ifCond .ne 37, 3) := by decide +kernel
theorem dX1_weigh_19 : decode cX1_weigh 19 = .ok (.aload_n 0, 1) := by decide +kernel
theorem dX1_weigh_20 : decode cX1_weigh 20 = .ok (.iload_n 1, 1) := by decide +kernel
theorem dX1_weigh_21 : decode cX1_weigh 21 = .ok (.putfield 32, 3) := by decide +kernel
theorem dX1_weigh_24 : decode cX1_weigh 24 = .ok (.iconst 0, 1) := by decide +kernel
theorem dX1_weigh_25 : decode cX1_weigh 25 = .ok (.istore 4, 2) := by decide +kernel
theorem dX1_weigh_27 : decode cX1_weigh 27 = .ok (.iload 4, 2) := by decide +kernel
theorem dX1_weigh_29 : decode cX1_weigh 29 = .ok (.iconst 3, 1) := by decide +kernel
theorem dX1_weigh_30 : decode cX1_weigh 30 = .ok (.if_icmp .ge 23, 3) := by decide +kernel
theorem dX1_weigh_33 : decode cX1_weigh 33 = .ok (.aload_n 0, 1) := by decide +kernel
theorem dX1_weigh_34 : decode cX1_weigh 34 = .ok (.getfield 19, 3) := by decide +kernel
theorem dX1_weigh_37 : decode cX1_weigh 37 = .ok (.iload 4, 2) := by decide +kernel
theorem dX1_weigh_39 : decode cX1_weigh 39 = .ok (.aload_n 0, 1) := by decide +kernel
theorem dX1_weigh_40 : decode cX1_weigh 40 = .ok (.getfield 22, 3) := by decide +kernel
theorem dX1_weigh_43 : decode cX1_weigh 43 = .ok (.iload 4, 2) := by decide +kernel
theorem dX1_weigh_45 : decode cX1_weigh 45 = .ok (.iaload, 1) := by decide +kernel
theorem dX1_weigh_46 : decode cX1_weigh 46 = .ok (.iastore, 1) := by decide +kernel
theorem dX1_weigh_47 : decode cX1_weigh 47 = .ok (.iinc 4 1, 3) := by decide +kernel
theorem dX1_weigh_50 : decode cX1_weigh 50 = .ok (.goto (-23), 3) := by decide +kernel
theorem dX1_weigh_53 : decode cX1_weigh 53 = .ok (.aload_n 0, 1) := by decide +kernel
theorem dX1_weigh_54 : decode cX1_weigh 54 = .ok (.dup, 1) := by decide +kernel
theorem dX1_weigh_55 : decode cX1_weigh 55 = .ok (.getfield 29, 3) := by decide +kernel
theorem dX1_weigh_58 : decode cX1_weigh 58 = .ok (.iconst 1, 1) := by decide +kernel
theorem dX1_weigh_59 : decode cX1_weigh 59 = .ok (.iadd, 1) := by decide +kernel
theorem dX1_weigh_60 : decode cX1_weigh 60 = .ok (.putfield 29, 3) := by decide +kernel
theorem dX1_weigh_63 : decode cX1_weigh 63 = .ok (.aload_n 0, 1) := by decide +kernel
theorem dX1_weigh_64 : decode cX1_weigh 64 = .ok (.iload_n 3, 1) := by decide +kernel
theorem dX1_weigh_65 : decode cX1_weigh 65 = .ok (.invokevirtual 58, 3) := by decide +kernel
theorem dX1_weigh_68 : decode cX1_weigh 68 = .ok (.iload_n 2, 1) := by decide +kernel
theorem dX1_weigh_69 : decode cX1_weigh 69 = .ok (.if_icmp .ne 13, 3) := by decide +kernel
theorem dX1_weigh_72 : decode cX1_weigh 72 = .ok (.aload_n 0, 1) := by decide +kernel
theorem dX1_weigh_73 : decode cX1_weigh 73 = .ok (.dup, 1) := by decide +kernel
theorem dX1_weigh_74 : decode cX1_weigh 74 = .ok (.getfield 35, 3) := by decide +kernel
theorem dX1_weigh_77 : decode cX1_weigh 77 = .ok (.iconst 1, 1) := by decide +kernel
theorem dX1_weigh_78 : decode cX1_weigh 78 = .ok (.iadd, 1) := by decide +kernel
theorem dX1_weigh_79 : decode cX1_weigh 79 = .ok (.putfield 35, 3) := by decide +kernel
theorem dX1_weigh_82 : decode cX1_weigh 82 = .ok (.return_, 1) := by decide +kernel
theorem dX1_leftOf_0 : decode cX1_leftOf 0 = .ok (.iload_n 1, 1) := by decide +kernel
theorem dX1_leftOf_1 : decode cX1_leftOf 1 = .ok (.istore_n 2, 1) := by decide +kernel
theorem dX1_leftOf_2 : decode cX1_leftOf 2 = .ok (.iconst 0, 1) := by decide +kernel
theorem dX1_leftOf_3 : decode cX1_leftOf 3 = .ok (.istore_n 3, 1) := by decide +kernel
theorem dX1_leftOf_4 : decode cX1_leftOf 4 = .ok (.iload_n 3, 1) := by decide +kernel
theorem dX1_leftOf_5 : decode cX1_leftOf 5 = .ok (.aload_n 0, 1) := by decide +kernel
theorem dX1_leftOf_6 : decode cX1_leftOf 6 = .ok (.getfield 25, 3) := by decide +kernel
theorem dX1_leftOf_9 : decode cX1_leftOf 9 = .ok (.if_icmp .ge 57, 3) := by decide +kernel
theorem dX1_leftOf_66 : decode cX1_leftOf 66 = .ok (.iload_n 2, 1) := by decide +kernel
theorem dX1_leftOf_67 : decode cX1_leftOf 67 = .ok (.ireturn, 1) := by decide +kernel
theorem dX1_topOf_0 : decode cX1_topOf 0 = .ok (.iload_n 1, 1) := by decide +kernel
theorem dX1_topOf_1 : decode cX1_topOf 1 = .ok (.ifCond .le 19, 3) := by decide +kernel
theorem dX1_topOf_20 : decode cX1_topOf 20 = .ok (.iconst (-1), 1) := by decide +kernel
theorem dX1_topOf_21 : decode cX1_topOf 21 = .ok (.ireturn, 1) := by decide +kernel
theorem dX2_firstCrossing_0 : decode cX2_firstCrossing 0 = .ok (.iconst 0, 1) := by decide +kernel
theorem dX2_firstCrossing_1 : decode cX2_firstCrossing 1 = .ok (.istore_n 3, 1) := by decide +kernel
theorem dX2_firstCrossing_2 : decode cX2_firstCrossing 2 = .ok (.iload_n 3, 1) := by decide +kernel
theorem dX2_firstCrossing_3 : decode cX2_firstCrossing 3 = .ok (.aload_n 1, 1) := by decide +kernel
theorem dX2_firstCrossing_4 : decode cX2_firstCrossing 4 = .ok (.getfield 15, 3) := by decide +kernel
theorem dX2_firstCrossing_7 : decode cX2_firstCrossing 7 = .ok (.bipush 6, 2) := by decide +kernel
theorem dX2_firstCrossing_9 : decode cX2_firstCrossing 9 = .ok (.iaload, 1) := by decide +kernel
theorem dX2_firstCrossing_10 : decode cX2_firstCrossing 10 = .ok (.if_icmp .ge 57, 3) := by decide +kernel
theorem dX2_firstCrossing_67 : decode cX2_firstCrossing 67 = .ok (.iconst (-1), 1) := by decide +kernel
theorem dX2_firstCrossing_68 : decode cX2_firstCrossing 68 = .ok (.ireturn, 1) := by decide +kernel
theorem dX2_fewestKeys_0 : decode cX2_fewestKeys 0 = .ok (.iconst 0, 1) := by decide +kernel
theorem dX2_fewestKeys_1 : decode cX2_fewestKeys 1 = .ok (.istore_n 2, 1) := by decide +kernel
theorem dX2_fewestKeys_2 : decode cX2_fewestKeys 2 = .ok (.iload_n 2, 1) := by decide +kernel
theorem dX2_fewestKeys_3 : decode cX2_fewestKeys 3 = .ok (.bipush 6, 2) := by decide +kernel
theorem dX2_fewestKeys_5 : decode cX2_fewestKeys 5 = .ok (.if_icmp .gt 21, 3) := by decide +kernel
theorem dX2_fewestKeys_8 : decode cX2_fewestKeys 8 = .ok (.aload_n 0, 1) := by decide +kernel
theorem dX2_fewestKeys_9 : decode cX2_fewestKeys 9 = .ok (.aload_n 1, 1) := by decide +kernel
theorem dX2_fewestKeys_10 : decode cX2_fewestKeys 10 = .ok (.iconst 0, 1) := by decide +kernel
theorem dX2_fewestKeys_11 : decode cX2_fewestKeys 11 = .ok (.iload_n 2, 1) := by decide +kernel
theorem dX2_fewestKeys_12 : decode cX2_fewestKeys 12 = .ok (.invokevirtual 24, 3) := by decide +kernel
theorem dX2_fewestKeys_15 : decode cX2_fewestKeys 15 = .ok (.ifCond .eq 5, 3) := by decide +kernel
theorem dX2_fewestKeys_18 : decode cX2_fewestKeys 18 = .ok (.iload_n 2, 1) := by decide +kernel
theorem dX2_fewestKeys_19 : decode cX2_fewestKeys 19 = .ok (.ireturn, 1) := by decide +kernel
theorem dX2_giveKeys_0 : decode cX2_giveKeys 0 = .ok (.iload_n 2, 1) := by decide +kernel
theorem dX2_giveKeys_1 : decode cX2_giveKeys 1 = .ok (.aload_n 1, 1) := by decide +kernel
theorem dX2_giveKeys_2 : decode cX2_giveKeys 2 = .ok (.getfield 15, 3) := by decide +kernel
theorem dX2_giveKeys_5 : decode cX2_giveKeys 5 = .ok (.bipush 6, 2) := by decide +kernel
theorem dX2_giveKeys_7 : decode cX2_giveKeys 7 = .ok (.iaload, 1) := by decide +kernel
theorem dX2_giveKeys_8 : decode cX2_giveKeys 8 = .ok (.if_icmp .ge 9, 3) := by decide +kernel
theorem dX2_giveKeys_17 : decode cX2_giveKeys 17 = .ok (.iconst 1, 1) := by decide +kernel
theorem dX2_giveKeys_18 : decode cX2_giveKeys 18 = .ok (.ireturn, 1) := by decide +kernel
theorem dX3_begin_0 : decode cX3_begin 0 = .ok (.aload_n 0, 1) := by decide +kernel
theorem dX3_begin_1 : decode cX3_begin 1 = .ok (.iconst 0, 1) := by decide +kernel
theorem dX3_begin_2 : decode cX3_begin 2 = .ok (.putfield 9, 3) := by decide +kernel
theorem dX3_begin_5 : decode cX3_begin 5 = .ok (.aload_n 0, 1) := by decide +kernel
theorem dX3_begin_6 : decode cX3_begin 6 = .ok (.iconst (-1), 1) := by decide +kernel
theorem dX3_begin_7 : decode cX3_begin 7 = .ok (.putfield 24, 3) := by decide +kernel
theorem dX3_begin_10 : decode cX3_begin 10 = .ok (.aload_n 0, 1) := by decide +kernel
theorem dX3_begin_11 : decode cX3_begin 11 = .ok (.iconst 0, 1) := by decide +kernel
theorem dX3_begin_12 : decode cX3_begin 12 = .ok (.putfield 27, 3) := by decide +kernel
theorem dX3_begin_15 : decode cX3_begin 15 = .ok (.return_, 1) := by decide +kernel
theorem dX3_look_0 : decode cX3_look 0 = .ok (.aload_n 0, 1) := by decide +kernel
theorem dX3_look_1 : decode cX3_look 1 = .ok (.getfield 27, 3) := by decide +kernel
theorem dX3_look_4 : decode cX3_look 4 = .ok (.ifCond .eq 4, 3) := by decide +kernel
theorem dX3_look_8 : decode cX3_look 8 = .ok (.aload_n 0, 1) := by decide +kernel
theorem dX3_look_9 : decode cX3_look 9 = .ok (.iconst 1, 1) := by decide +kernel
theorem dX3_look_10 : decode cX3_look 10 = .ok (.putfield 27, 3) := by decide +kernel
theorem dX3_look_13 : decode cX3_look 13 = .ok (.aload_n 0, 1) := by decide +kernel
theorem dX3_look_14 : decode cX3_look 14 = .ok (.getfield 9, 3) := by decide +kernel
theorem dX3_look_17 : decode cX3_look 17 = .ok (.aload_n 0, 1) := by decide +kernel
theorem dX3_look_18 : decode cX3_look 18 = .ok (.getfield 31, 3) := by decide +kernel
theorem dX3_look_21 : decode cX3_look 21 = .ok (.getfield 35, 3) := by decide +kernel
theorem dX3_look_24 : decode cX3_look 24 = .ok (.if_icmp .ge 60, 3) := by decide +kernel
theorem dX3_look_84 : decode cX3_look 84 = .ok (.aload_n 0, 1) := by decide +kernel
theorem dX3_look_85 : decode cX3_look 85 = .ok (.aload_n 0, 1) := by decide +kernel
theorem dX3_look_86 : decode cX3_look 86 = .ok (.getfield 9, 3) := by decide +kernel
theorem dX3_look_89 : decode cX3_look 89 = .ok (.putfield 18, 3) := by decide +kernel
theorem dX3_look_92 : decode cX3_look 92 = .ok (.aload_n 0, 1) := by decide +kernel
theorem dX3_look_93 : decode cX3_look 93 = .ok (.getfield 9, 3) := by decide +kernel
theorem dX3_look_96 : decode cX3_look 96 = .ok (.aload_n 0, 1) := by decide +kernel
theorem dX3_look_97 : decode cX3_look 97 = .ok (.getfield 31, 3) := by decide +kernel
theorem dX3_look_100 : decode cX3_look 100 = .ok (.getfield 35, 3) := by decide +kernel
theorem dX3_look_103 : decode cX3_look 103 = .ok (.if_icmp .ge 13, 3) := by decide +kernel
theorem dX3_look_116 : decode cX3_look 116 = .ok (.aload_n 0, 1) := by decide +kernel
theorem dX3_look_117 : decode cX3_look 117 = .ok (.iconst 0, 1) := by decide +kernel
theorem dX3_look_118 : decode cX3_look 118 = .ok (.putfield 15, 3) := by decide +kernel
theorem dX3_look_121 : decode cX3_look 121 = .ok (.return_, 1) := by decide +kernel
theorem dX4_write_0 : decode cX4_write 0 = .ok (.aload_n 0, 1) := by decide +kernel
theorem dX4_write_1 : decode cX4_write 1 = .ok (.iconst 0, 1) := by decide +kernel
theorem dX4_write_2 : decode cX4_write 2 = .ok (.putfield 22, 3) := by decide +kernel
theorem dX4_write_5 : decode cX4_write 5 = .ok (.iconst 0, 1) := by decide +kernel
theorem dX4_write_6 : decode cX4_write 6 = .ok (.istore_n 2, 1) := by decide +kernel
theorem dX4_write_7 : decode cX4_write 7 = .ok (.iload_n 2, 1) := by decide +kernel
theorem dX4_write_8 : decode cX4_write 8 = .ok (.aload_n 1, 1) := by decide +kernel
theorem dX4_write_9 : decode cX4_write 9 = .ok (.getfield 26, 3) := by decide +kernel
theorem dX4_write_12 : decode cX4_write 12 = .ok (.iconst 3, 1) := by decide +kernel
theorem dX4_write_13 : decode cX4_write 13 = .ok (.iaload, 1) := by decide +kernel
theorem dX4_write_14 : decode cX4_write 14 = .ok (.if_icmp .ge 22, 3) := by decide +kernel
theorem dX4_write_36 : decode cX4_write 36 = .ok (.iconst 0, 1) := by decide +kernel
theorem dX4_write_37 : decode cX4_write 37 = .ok (.istore_n 2, 1) := by decide +kernel
theorem dX4_write_38 : decode cX4_write 38 = .ok (.iload_n 2, 1) := by decide +kernel
theorem dX4_write_39 : decode cX4_write 39 = .ok (.aload_n 1, 1) := by decide +kernel
theorem dX4_write_40 : decode cX4_write 40 = .ok (.getfield 26, 3) := by decide +kernel
theorem dX4_write_43 : decode cX4_write 43 = .ok (.iconst 2, 1) := by decide +kernel
theorem dX4_write_44 : decode cX4_write 44 = .ok (.iaload, 1) := by decide +kernel
theorem dX4_write_45 : decode cX4_write 45 = .ok (.if_icmp .ge 69, 3) := by decide +kernel
theorem dX4_write_114 : decode cX4_write 114 = .ok (.bipush 19, 2) := by decide +kernel
theorem dX4_write_116 : decode cX4_write 116 = .ok (.istore_n 2, 1) := by decide +kernel
theorem dX4_write_117 : decode cX4_write 117 = .ok (.iconst 0, 1) := by decide +kernel
theorem dX4_write_118 : decode cX4_write 118 = .ok (.istore_n 3, 1) := by decide +kernel
theorem dX4_write_119 : decode cX4_write 119 = .ok (.iload_n 3, 1) := by decide +kernel
theorem dX4_write_120 : decode cX4_write 120 = .ok (.aload_n 0, 1) := by decide +kernel
theorem dX4_write_121 : decode cX4_write 121 = .ok (.getfield 22, 3) := by decide +kernel
theorem dX4_write_124 : decode cX4_write 124 = .ok (.if_icmp .ge 26, 3) := by decide +kernel
theorem dX4_write_150 : decode cX4_write 150 = .ok (.aload_n 0, 1) := by decide +kernel
theorem dX4_write_151 : decode cX4_write 151 = .ok (.iload_n 2, 1) := by decide +kernel
theorem dX4_write_152 : decode cX4_write 152 = .ok (.invokevirtual 37, 3) := by decide +kernel
theorem dX4_write_155 : decode cX4_write 155 = .ok (.aload_n 0, 1) := by decide +kernel
theorem dX4_write_156 : decode cX4_write 156 = .ok (.getfield 22, 3) := by decide +kernel
theorem dX4_write_159 : decode cX4_write 159 = .ok (.ireturn, 1) := by decide +kernel
theorem dX4_put_0 : decode cX4_put 0 = .ok (.aload_n 0, 1) := by decide +kernel
theorem dX4_put_1 : decode cX4_put 1 = .ok (.getfield 22, 3) := by decide +kernel
theorem dX4_put_4 : decode cX4_put 4 = .ok (.ifCond .lt 32, 3) := by decide +kernel
theorem dX4_put_7 : decode cX4_put 7 = .ok (.aload_n 0, 1) := by decide +kernel
theorem dX4_put_8 : decode cX4_put 8 = .ok (.getfield 22, 3) := by decide +kernel
theorem dX4_put_11 : decode cX4_put 11 = .ok (.bipush 36, 2) := by decide +kernel
theorem dX4_put_13 : decode cX4_put 13 = .ok (.if_icmp .ge 23, 3) := by decide +kernel
theorem dX4_put_16 : decode cX4_put 16 = .ok (.aload_n 0, 1) := by decide +kernel
theorem dX4_put_17 : decode cX4_put 17 = .ok (.getfield 11, 3) := by decide +kernel
theorem dX4_put_20 : decode cX4_put 20 = .ok (.aload_n 0, 1) := by decide +kernel
theorem dX4_put_21 : decode cX4_put 21 = .ok (.getfield 22, 3) := by decide +kernel
theorem dX4_put_24 : decode cX4_put 24 = .ok (.iload_n 1, 1) := by decide +kernel
theorem dX4_put_25 : decode cX4_put 25 = .ok (.iastore, 1) := by decide +kernel
theorem dX4_put_26 : decode cX4_put 26 = .ok (.aload_n 0, 1) := by decide +kernel
theorem dX4_put_27 : decode cX4_put 27 = .ok (.dup, 1) := by decide +kernel
theorem dX4_put_28 : decode cX4_put 28 = .ok (.getfield 22, 3) := by decide +kernel
theorem dX4_put_31 : decode cX4_put 31 = .ok (.iconst 1, 1) := by decide +kernel
theorem dX4_put_32 : decode cX4_put 32 = .ok (.iadd, 1) := by decide +kernel
theorem dX4_put_33 : decode cX4_put 33 = .ok (.putfield 22, 3) := by decide +kernel
theorem dX4_put_36 : decode cX4_put 36 = .ok (.return_, 1) := by decide +kernel
theorem dX4_accept_0 : decode cX4_accept 0 = .ok (.aload_n 0, 1) := by decide +kernel
theorem dX4_accept_1 : decode cX4_accept 1 = .ok (.getfield 18, 3) := by decide +kernel
theorem dX4_accept_4 : decode cX4_accept 4 = .ok (.aload_n 1, 1) := by decide +kernel
theorem dX4_accept_5 : decode cX4_accept 5 = .ok (.getfield 31, 3) := by decide +kernel
theorem dX4_accept_8 : decode cX4_accept 8 = .ok (.invokevirtual 54, 3) := by decide +kernel
theorem dX4_accept_11 : decode cX4_accept 11 = .ok (.iconst 0, 1) := by decide +kernel
theorem dX4_accept_12 : decode cX4_accept 12 = .ok (.istore_n 3, 1) := by decide +kernel
theorem dX4_accept_13 : decode cX4_accept 13 = .ok (.iconst 0, 1) := by decide +kernel
theorem dX4_accept_14 : decode cX4_accept 14 = .ok (.istore 4, 2) := by decide +kernel
theorem dX4_accept_16 : decode cX4_accept 16 = .ok (.iload 4, 2) := by decide +kernel
theorem dX4_accept_18 : decode cX4_accept 18 = .ok (.aload_n 1, 1) := by decide +kernel
theorem dX4_accept_19 : decode cX4_accept 19 = .ok (.getfield 26, 3) := by decide +kernel
theorem dX4_accept_22 : decode cX4_accept 22 = .ok (.iconst 3, 1) := by decide +kernel
theorem dX4_accept_23 : decode cX4_accept 23 = .ok (.iaload, 1) := by decide +kernel
theorem dX4_accept_24 : decode cX4_accept 24 = .ok (.if_icmp .ge 43, 3) := by decide +kernel
theorem dX4_accept_67 : decode cX4_accept 67 = .ok (.iconst 0, 1) := by decide +kernel
theorem dX4_accept_68 : decode cX4_accept 68 = .ok (.istore 4, 2) := by decide +kernel
theorem dX4_accept_70 : decode cX4_accept 70 = .ok (.iload 4, 2) := by decide +kernel
theorem dX4_accept_72 : decode cX4_accept 72 = .ok (.aload_n 1, 1) := by decide +kernel
theorem dX4_accept_73 : decode cX4_accept 73 = .ok (.getfield 26, 3) := by decide +kernel
theorem dX4_accept_76 : decode cX4_accept 76 = .ok (.iconst 2, 1) := by decide +kernel
theorem dX4_accept_77 : decode cX4_accept 77 = .ok (.iaload, 1) := by decide +kernel
theorem dX4_accept_78 : decode cX4_accept 78 = .ok (.if_icmp .ge 38, 3) := by decide +kernel
theorem dX4_accept_116 : decode cX4_accept 116 = .ok (.aload_n 2, 1) := by decide +kernel
theorem dX4_accept_117 : decode cX4_accept 117 = .ok (.getfield 72, 3) := by decide +kernel
theorem dX4_accept_120 : decode cX4_accept 120 = .ok (.iload_n 3, 1) := by decide +kernel
theorem dX4_accept_121 : decode cX4_accept 121 = .ok (.iconst 1, 1) := by decide +kernel
theorem dX4_accept_122 : decode cX4_accept 122 = .ok (.iadd, 1) := by decide +kernel
theorem dX4_accept_123 : decode cX4_accept 123 = .ok (.if_icmp .ne 16, 3) := by decide +kernel
theorem dX4_accept_139 : decode cX4_accept 139 = .ok (.iconst 0, 1) := by decide +kernel
theorem dX4_accept_140 : decode cX4_accept 140 = .ok (.ireturn, 1) := by decide +kernel
theorem dX5_readTown_0 : decode cX5_readTown 0 = .ok (.aload_n 1, 1) := by decide +kernel
theorem dX5_readTown_1 : decode cX5_readTown 1 = .ok (.invokevirtual 46, 3) := by decide +kernel
theorem dX5_readTown_4 : decode cX5_readTown 4 = .ok (.aload_n 0, 1) := by decide +kernel
theorem dX5_readTown_5 : decode cX5_readTown 5 = .ok (.getfield 30, 3) := by decide +kernel
theorem dX5_readTown_8 : decode cX5_readTown 8 = .ok (.invokevirtual 51, 3) := by decide +kernel
theorem dX5_readTown_11 : decode cX5_readTown 11 = .ok (.aload_n 0, 1) := by decide +kernel
theorem dX5_readTown_12 : decode cX5_readTown 12 = .ok (.iconst 0, 1) := by decide +kernel
theorem dX5_readTown_13 : decode cX5_readTown 13 = .ok (.putfield 15, 3) := by decide +kernel
theorem dX5_readTown_16 : decode cX5_readTown 16 = .ok (.aload_n 0, 1) := by decide +kernel
theorem dX5_readTown_17 : decode cX5_readTown 17 = .ok (.iconst (-1), 1) := by decide +kernel
theorem dX5_readTown_18 : decode cX5_readTown 18 = .ok (.putfield 19, 3) := by decide +kernel
theorem dX5_readTown_21 : decode cX5_readTown 21 = .ok (.iconst 0, 1) := by decide +kernel
theorem dX5_readTown_22 : decode cX5_readTown 22 = .ok (.istore_n 2, 1) := by decide +kernel
theorem dX5_readTown_23 : decode cX5_readTown 23 = .ok (.iload_n 2, 1) := by decide +kernel
theorem dX5_readTown_24 : decode cX5_readTown 24 = .ok (.sipush 1600, 3) := by decide +kernel
theorem dX5_readTown_27 : decode cX5_readTown 27 = .ok (.if_icmp .gt 225, 3) := by decide +kernel
theorem dX5_readTown_30 : decode cX5_readTown 30 = .ok (.aload_n 0, 1) := by decide +kernel
theorem dX5_readTown_31 : decode cX5_readTown 31 = .ok (.getfield 30, 3) := by decide +kernel
theorem dX5_readTown_34 : decode cX5_readTown 34 = .ok (.invokevirtual 54, 3) := by decide +kernel
theorem dX5_readTown_37 : decode cX5_readTown 37 = .ok (.aload_n 0, 1) := by decide +kernel
theorem dX5_readTown_38 : decode cX5_readTown 38 = .ok (.getfield 30, 3) := by decide +kernel
theorem dX5_readTown_41 : decode cX5_readTown 41 = .ok (.getfield 57, 3) := by decide +kernel
theorem dX5_readTown_44 : decode cX5_readTown 44 = .ok (.ifCond .ne 5, 3) := by decide +kernel
theorem dX5_readTown_47 : decode cX5_readTown 47 = .ok (.iload_n 2, 1) := by decide +kernel
theorem dX5_readTown_48 : decode cX5_readTown 48 = .ok (.ireturn, 1) := by decide +kernel
theorem dX6_copyFrom_0 : decode cX6_copyFrom 0 = .ok (.iconst 0, 1) := by decide +kernel
theorem dX6_copyFrom_1 : decode cX6_copyFrom 1 = .ok (.istore_n 2, 1) := by decide +kernel
theorem dX6_copyFrom_2 : decode cX6_copyFrom 2 = .ok (.iload_n 2, 1) := by decide +kernel
theorem dX6_copyFrom_3 : decode cX6_copyFrom 3 = .ok (.iconst 3, 1) := by decide +kernel
