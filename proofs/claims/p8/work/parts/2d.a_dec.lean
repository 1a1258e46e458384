theorem dX0_placesOf_0 : decode cX0_placesOf 0 = .ok (.aload_n 0, 1) := by decide +kernel
theorem dX0_placesOf_1 : decode cX0_placesOf 1 = .ok (.aload_n 1, 1) := by decide +kernel
theorem dX0_placesOf_2 : decode cX0_placesOf 2 = .ok (.iload_n 2, 1) := by decide +kernel
theorem dX0_placesOf_3 : decode cX0_placesOf 3 = .ok (.aload_n 1, 1) := by decide +kernel
theorem dX0_placesOf_4 : decode cX0_placesOf 4 = .ok (.iload_n 2, 1) := by decide +kernel
theorem dX0_placesOf_5 : decode cX0_placesOf 5 = .ok (.invokevirtual 67, 3) := by decide +kernel
theorem dX0_placesOf_8 : decode cX0_placesOf 8 = .ok (.iconst 3, 1) := by decide +kernel
theorem dX0_placesOf_9 : decode cX0_placesOf 9 = .ok (.iconst 1, 1) := by decide +kernel
theorem dX0_placesOf_10 : decode cX0_placesOf 10 = .ok (.aload_n 1, 1) := by decide +kernel
theorem dX0_placesOf_11 : decode cX0_placesOf 11 = .ok (.getfield 73, 3) := by decide +kernel
theorem dX0_placesOf_14 : decode cX0_placesOf 14 = .ok (.iconst 0, 1) := by decide +kernel
theorem dX0_placesOf_15 : decode cX0_placesOf 15 = .ok (.iaload, 1) := by decide +kernel
theorem dX0_placesOf_16 : decode cX0_placesOf 16 = .ok (.ishl, 1) := by decide +kernel
theorem dX0_placesOf_17 : decode cX0_placesOf 17 = .ok (.iconst 1, 1) := by decide +kernel
theorem dX0_placesOf_18 : decode cX0_placesOf 18 = .ok (.isub, 1) := by decide +kernel
theorem dX0_placesOf_19 : decode cX0_placesOf 19 = .ok (.invokevirtual 76, 3) := by decide +kernel
theorem dX0_placesOf_22 : decode cX0_placesOf 22 = .ok (.pop, 1) := by decide +kernel
theorem dX0_placesOf_23 : decode cX0_placesOf 23 = .ok (.aload_n 0, 1) := by decide +kernel
theorem dX0_placesOf_24 : decode cX0_placesOf 24 = .ok (.getfield 61, 3) := by decide +kernel
theorem dX0_placesOf_27 : decode cX0_placesOf 27 = .ok (.ireturn, 1) := by decide +kernel
theorem dX0_bestLent_0 : decode cX0_bestLent 0 = .ok (.aload_n 1, 1) := by decide +kernel
theorem dX0_bestLent_1 : decode cX0_bestLent 1 = .ok (.iload_n 2, 1) := by decide +kernel
theorem dX0_bestLent_2 : decode cX0_bestLent 2 = .ok (.invokevirtual 67, 3) := by decide +kernel
theorem dX0_bestLent_5 : decode cX0_bestLent 5 = .ok (.istore 4, 2) := by decide +kernel
theorem dX0_bestLent_7 : decode cX0_bestLent 7 = .ok (.iconst (-1), 1) := by decide +kernel
theorem dX0_bestLent_8 : decode cX0_bestLent 8 = .ok (.istore 5, 2) := by decide +kernel
theorem dX0_bestLent_10 : decode cX0_bestLent 10 = .ok (.aload_n 0, 1) := by decide +kernel
theorem dX0_bestLent_11 : decode cX0_bestLent 11 = .ok (.iconst (-1), 1) := by decide +kernel
theorem dX0_bestLent_12 : decode cX0_bestLent 12 = .ok (.putfield 64, 3) := by decide +kernel
theorem dX0_bestLent_15 : decode cX0_bestLent 15 = .ok (.iconst 0, 1) := by decide +kernel
theorem dX0_bestLent_16 : decode cX0_bestLent 16 = .ok (.istore 6, 2) := by decide +kernel
theorem dX0_bestLent_18 : decode cX0_bestLent 18 = .ok (.iload 6, 2) := by decide +kernel
theorem dX0_bestLent_20 : decode cX0_bestLent 20 = .ok (.aload_n 1, 1) := by decide +kernel
theorem dX0_bestLent_21 : decode cX0_bestLent 21 = .ok (.getfield 73, 3) := by decide +kernel
theorem dX0_bestLent_24 : decode cX0_bestLent 24 = .ok (.iconst 2, 1) := by decide +kernel
theorem dX0_bestLent_25 : decode cX0_bestLent 25 = .ok (.iaload, 1) := by decide +kernel
theorem dX0_bestLent_26 : decode cX0_bestLent 26 = .ok (.if_icmp .ge 82, 3) := by decide +kernel
theorem dX0_bestLent_29 : decode cX0_bestLent 29 = .ok (.iload 4, 2) := by decide +kernel
theorem dX0_bestLent_31 : decode cX0_bestLent 31 = .ok (.iload 6, 2) := by decide +kernel
theorem dX0_bestLent_33 : decode cX0_bestLent 33 = .ok (.ishr, 1) := by decide +kernel
theorem dX0_bestLent_34 : decode cX0_bestLent 34 = .ok (.iconst 1, 1) := by decide +kernel
theorem dX0_bestLent_35 : decode cX0_bestLent 35 = .ok (.iand, 1) := by decide +kernel
theorem dX0_bestLent_36 : decode cX0_bestLent 36 = .ok (.ifCond .ne 66, 3) := by decide +kernel
theorem dX0_bestLent_39 : decode cX0_bestLent 39 = .ok (.aload_n 1, 1) := by decide +kernel
theorem dX0_bestLent_40 : decode cX0_bestLent 40 = .ok (.getfield 80, 3) := by decide +kernel
theorem dX0_bestLent_43 : decode cX0_bestLent 43 = .ok (.getfield 84, 3) := by decide +kernel
theorem dX0_bestLent_46 : decode cX0_bestLent 46 = .ok (.iload 6, 2) := by decide +kernel
theorem dX0_bestLent_48 : decode cX0_bestLent 48 = .ok (.iaload, 1) := by decide +kernel
theorem dX0_bestLent_49 : decode cX0_bestLent 49 = .ok (.bipush 40, 2) := by decide +kernel
theorem dX0_bestLent_51 : decode cX0_bestLent 51 = .ok (.if_icmp .eq 51, 3) := by decide +kernel
theorem dX0_bestLent_54 : decode cX0_bestLent 54 = .ok (.aload_n 0, 1) := by decide +kernel
theorem dX0_bestLent_55 : decode cX0_bestLent 55 = .ok (.aload_n 1, 1) := by decide +kernel
theorem dX0_bestLent_56 : decode cX0_bestLent 56 = .ok (.iload_n 2, 1) := by decide +kernel
theorem dX0_bestLent_57 : decode cX0_bestLent 57 = .ok (.iload 4, 2) := by decide +kernel
theorem dX0_bestLent_59 : decode cX0_bestLent 59 = .ok (.iconst 1, 1) := by decide +kernel
theorem dX0_bestLent_60 : decode cX0_bestLent 60 = .ok (.iload 6, 2) := by decide +kernel
theorem dX0_bestLent_62 : decode cX0_bestLent 62 = .ok (.ishl, 1) := by decide +kernel
theorem dX0_bestLent_63 : decode cX0_bestLent 63 = .ok (.ior, 1) := by decide +kernel
theorem dX0_bestLent_64 : decode cX0_bestLent 64 = .ok (.iconst 0, 1) := by decide +kernel
theorem dX0_bestLent_65 : decode cX0_bestLent 65 = .ok (.iload_n 3, 1) := by decide +kernel
theorem dX0_bestLent_66 : decode cX0_bestLent 66 = .ok (.invokevirtual 76, 3) := by decide +kernel
theorem dX0_bestLent_69 : decode cX0_bestLent 69 = .ok (.istore 7, 2) := by decide +kernel
theorem dX0_bestLent_71 : decode cX0_bestLent 71 = .ok (.iload 7, 2) := by decide +kernel
theorem dX0_bestLent_73 : decode cX0_bestLent 73 = .ok (.iconst (-1), 1) := by decide +kernel
theorem dX0_bestLent_74 : decode cX0_bestLent 74 = .ok (.if_icmp .eq 28, 3) := by decide +kernel
theorem dX0_bestLent_77 : decode cX0_bestLent 77 = .ok (.iload 5, 2) := by decide +kernel
theorem dX0_bestLent_79 : decode cX0_bestLent 79 = .ok (.iconst (-1), 1) := by decide +kernel
theorem dX0_bestLent_80 : decode cX0_bestLent 80 = .ok (.if_icmp .eq 12, 3) := by decide +kernel
theorem dX0_bestLent_83 : decode cX0_bestLent 83 = .ok (.iload 7, 2) := by decide +kernel
theorem dX0_bestLent_85 : decode cX0_bestLent 85 = .ok (.aload_n 0, 1) := by decide +kernel
theorem dX0_bestLent_86 : decode cX0_bestLent 86 = .ok (.getfield 64, 3) := by decide +kernel
theorem dX0_bestLent_89 : decode cX0_bestLent 89 = .ok (.if_icmp .ge 13, 3) := by decide +kernel
theorem dX0_bestLent_92 : decode cX0_bestLent 92 = .ok (.iload 6, 2) := by decide +kernel
theorem dX0_bestLent_94 : decode cX0_bestLent 94 = .ok (.istore 5, 2) := by decide +kernel
theorem dX0_bestLent_96 : decode cX0_bestLent 96 = .ok (.aload_n 0, 1) := by decide +kernel
theorem dX0_bestLent_97 : decode cX0_bestLent 97 = .ok (.iload 7, 2) := by decide +kernel
theorem dX0_bestLent_99 : decode cX0_bestLent 99 = .ok (.putfield 64, 3) := by decide +kernel
theorem dX0_bestLent_102 : decode cX0_bestLent 102 = .ok (.iinc 6 1, 3) := by decide +kernel
theorem dX0_bestLent_105 : decode cX0_bestLent 105 = .ok (.goto (-87), 3) := by decide +kernel
theorem dX0_bestLent_108 : decode cX0_bestLent 108 = .ok (.iload 5, 2) := by decide +kernel
theorem dX0_bestLent_110 : decode cX0_bestLent 110 = .ok (.ireturn, 1) := by decide +kernel
theorem dX0_search_0 : decode cX0_search 0 = .ok (.aload_n 1, 1) := by decide +kernel
theorem dX0_search_1 : decode cX0_search 1 = .ok (.iconst 3, 1) := by decide +kernel
theorem dX0_search_2 : decode cX0_search 2 = .ok (.iload_n 2, 1) := by decide +kernel
theorem dX0_search_3 : decode cX0_search 3 = .ok (.invokevirtual 89, 3) := by decide +kernel
theorem dX0_search_6 : decode cX0_search 6 = .ok (.ifCond .ne 5, 3) := by decide +kernel
theorem dX0_search_9 : decode cX0_search 9 = .ok (.iconst (-1), 1) := by decide +kernel
theorem dX0_search_10 : decode cX0_search 10 = .ok (.ireturn, 1) := by decide +kernel
theorem dX0_search_11 : decode cX0_search 11 = .ok (.aload_n 0, 1) := by decide +kernel
theorem dX0_search_12 : decode cX0_search 12 = .ok (.iload 4, 2) := by decide +kernel
theorem dX0_search_14 : decode cX0_search 14 = .ok (.putfield 55, 3) := by decide +kernel
theorem dX0_search_17 : decode cX0_search 17 = .ok (.aload_n 0, 1) := by decide +kernel
theorem dX0_search_18 : decode cX0_search 18 = .ok (.iload 5, 2) := by decide +kernel
theorem dX0_search_20 : decode cX0_search 20 = .ok (.putfield 58, 3) := by decide +kernel
theorem dX0_search_23 : decode cX0_search 23 = .ok (.aload_n 0, 1) := by decide +kernel
theorem dX0_search_24 : decode cX0_search 24 = .ok (.iconst 0, 1) := by decide +kernel
theorem dX0_search_25 : decode cX0_search 25 = .ok (.putfield 61, 3) := by decide +kernel
theorem dX0_search_28 : decode cX0_search 28 = .ok (.aload_n 0, 1) := by decide +kernel
theorem dX0_search_29 : decode cX0_search 29 = .ok (.aload_n 1, 1) := by decide +kernel
theorem dX0_search_30 : decode cX0_search 30 = .ok (.iload_n 2, 1) := by decide +kernel
theorem dX0_search_31 : decode cX0_search 31 = .ok (.invokevirtual 93, 3) := by decide +kernel
theorem dX0_search_34 : decode cX0_search 34 = .ok (.aload_n 0, 1) := by decide +kernel
theorem dX0_search_35 : decode cX0_search 35 = .ok (.aload_n 1, 1) := by decide +kernel
theorem dX0_search_36 : decode cX0_search 36 = .ok (.iload_n 3, 1) := by decide +kernel
theorem dX0_search_37 : decode cX0_search 37 = .ok (.invokevirtual 97, 3) := by decide +kernel
theorem dX0_search_40 : decode cX0_search 40 = .ok (.aload_n 0, 1) := by decide +kernel
theorem dX0_search_41 : decode cX0_search 41 = .ok (.aload_n 1, 1) := by decide +kernel
theorem dX0_search_42 : decode cX0_search 42 = .ok (.invokevirtual 100, 3) := by decide +kernel
theorem dX0_search_45 : decode cX0_search 45 = .ok (.aload_n 0, 1) := by decide +kernel
theorem dX0_search_46 : decode cX0_search 46 = .ok (.aload_n 1, 1) := by decide +kernel
theorem dX0_search_47 : decode cX0_search 47 = .ok (.iload_n 2, 1) := by decide +kernel
theorem dX0_search_48 : decode cX0_search 48 = .ok (.iload_n 3, 1) := by decide +kernel
theorem dX0_search_49 : decode cX0_search 49 = .ok (.invokestatic 104, 3) := by decide +kernel
theorem dX0_search_52 : decode cX0_search 52 = .ok (.invokevirtual 109, 3) := by decide +kernel
theorem dX0_search_55 : decode cX0_search 55 = .ok (.aload_n 0, 1) := by decide +kernel
theorem dX0_search_56 : decode cX0_search 56 = .ok (.invokevirtual 113, 3) := by decide +kernel
theorem dX0_search_59 : decode cX0_search 59 = .ok (.aload_n 0, 1) := by decide +kernel
theorem dX0_search_60 : decode cX0_search 60 = .ok (.aload_n 1, 1) := by decide +kernel
theorem dX0_search_61 : decode cX0_search 61 = .ok (.aload_n 1, 1) := by decide +kernel
theorem dX0_search_62 : decode cX0_search 62 = .ok (.getfield 80, 3) := by decide +kernel
theorem dX0_search_65 : decode cX0_search 65 = .ok (.getfield 116, 3) := by decide +kernel
theorem dX0_search_68 : decode cX0_search 68 = .ok (.iload_n 2, 1) := by decide +kernel
theorem dX0_search_69 : decode cX0_search 69 = .ok (.iaload, 1) := by decide +kernel
theorem dX0_search_70 : decode cX0_search 70 = .ok (.iload_n 3, 1) := by decide +kernel
theorem dX0_search_71 : decode cX0_search 71 = .ok (.invokevirtual 119, 3) := by decide +kernel
theorem dX0_search_74 : decode cX0_search 74 = .ok (.iconst 0, 1) := by decide +kernel
theorem dX0_search_75 : decode cX0_search 75 = .ok (.istore 6, 2) := by decide +kernel
theorem dX0_search_77 : decode cX0_search 77 = .ok (.iload 6, 2) := by decide +kernel
theorem dX0_search_79 : decode cX0_search 79 = .ok (.aload_n 0, 1) := by decide +kernel
theorem dX0_search_80 : decode cX0_search 80 = .ok (.getfield 49, 3) := by decide +kernel
theorem dX0_search_83 : decode cX0_search 83 = .ok (.if_icmp .gt 29, 3) := by decide +kernel
theorem dX0_search_86 : decode cX0_search 86 = .ok (.aload_n 0, 1) := by decide +kernel
theorem dX0_search_87 : decode cX0_search 87 = .ok (.invokevirtual 122, 3) := by decide +kernel
theorem dX0_search_90 : decode cX0_search 90 = .ok (.ifCond .ne 5, 3) := by decide +kernel
theorem dX0_search_93 : decode cX0_search 93 = .ok (.iconst (-1), 1) := by decide +kernel
theorem dX0_search_94 : decode cX0_search 94 = .ok (.ireturn, 1) := by decide +kernel
theorem dX0_search_95 : decode cX0_search 95 = .ok (.aload_n 0, 1) := by decide +kernel
theorem dX0_search_96 : decode cX0_search 96 = .ok (.aload_n 1, 1) := by decide +kernel
theorem dX0_search_97 : decode cX0_search 97 = .ok (.invokevirtual 126, 3) := by decide +kernel
theorem dX0_search_100 : decode cX0_search 100 = .ok (.ifCond .eq 6, 3) := by decide +kernel
theorem dX0_search_103 : decode cX0_search 103 = .ok (.iload 6, 2) := by decide +kernel
theorem dX0_search_105 : decode cX0_search 105 = .ok (.ireturn, 1) := by decide +kernel
theorem dX0_search_106 : decode cX0_search 106 = .ok (.iinc 6 1, 3) := by decide +kernel
theorem dX0_search_109 : decode cX0_search 109 = .ok (.goto (-32), 3) := by decide +kernel
theorem dX0_search_112 : decode cX0_search 112 = .ok (.iconst (-1), 1) := by decide +kernel
theorem dX0_search_113 : decode cX0_search 113 = .ok (.ireturn, 1) := by decide +kernel
theorem dX1_add_0 : decode cX1_add 0 = .ok (.aload_n 0, 1) := by decide +kernel
theorem dX1_add_1 : decode cX1_add 1 = .ok (.getfield 25, 3) := by decide +kernel
theorem dX1_add_4 : decode cX1_add 4 = .ok (.ifCond .lt 12, 3) := by decide +kernel
theorem dX1_add_7 : decode cX1_add 7 = .ok (.aload_n 0, 1) := by decide +kernel
theorem dX1_add_8 : decode cX1_add 8 = .ok (.getfield 25, 3) := by decide +kernel
theorem dX1_add_11 : decode cX1_add 11 = .ok (.bipush 20, 2) := by decide +kernel
theorem dX1_add_13 : decode cX1_add 13 = .ok (.if_icmp .lt 5, 3) := by decide +kernel
theorem dX1_add_16 : decode cX1_add 16 = .ok (.iconst 0, 1) := by decide +kernel
theorem dX1_add_17 : decode cX1_add 17 = .ok (.ireturn, 1) := by decide +kernel
theorem dX1_add_18 : decode cX1_add 18 = .ok (.aload_n 0, 1) := by decide +kernel
theorem dX1_add_19 : decode cX1_add 19 = .ok (.getfield 11, 3) := by decide +kernel
theorem dX1_add_22 : decode cX1_add 22 = .ok (.aload_n 0, 1) := by decide +kernel
theorem dX1_add_23 : decode cX1_add 23 = .ok (.getfield 25, 3) := by decide +kernel
theorem dX1_add_26 : decode cX1_add 26 = .ok (.iload_n 1, 1) := by decide +kernel
theorem dX1_add_27 : decode cX1_add 27 = .ok (.iastore, 1) := by decide +kernel
theorem dX1_add_28 : decode cX1_add 28 = .ok (.aload_n 0, 1) := by decide +kernel
theorem dX1_add_29 : decode cX1_add 29 = .ok (.getfield 15, 3) := by decide +kernel
theorem dX1_add_32 : decode cX1_add 32 = .ok (.aload_n 0, 1) := by decide +kernel
theorem dX1_add_33 : decode cX1_add 33 = .ok (.getfield 25, 3) := by decide +kernel
theorem dX1_add_36 : decode cX1_add 36 = .ok (.iload_n 2, 1) := by decide +kernel
theorem dX1_add_37 : decode cX1_add 37 = .ok (.bastore, 1) := by decide +kernel
theorem dX1_add_38 : decode cX1_add 38 = .ok (.aload_n 0, 1) := by decide +kernel
theorem dX1_add_39 : decode cX1_add 39 = .ok (.dup, 1) := by decide +kernel
theorem dX1_add_40 : decode cX1_add 40 = .ok (.getfield 25, 3) := by decide +kernel
theorem dX1_add_43 : decode cX1_add 43 = .ok (.iconst 1, 1) := by decide +kernel
theorem dX1_add_44 : decode cX1_add 44 = .ok (.iadd, 1) := by decide +kernel
theorem dX1_add_45 : decode cX1_add 45 = .ok (.putfield 25, 3) := by decide +kernel
theorem dX1_add_48 : decode cX1_add 48 = .ok (.iconst 1, 1) := by decide +kernel
theorem dX1_add_49 : decode cX1_add 49 = .ok (.ireturn, 1) := by decide +kernel
theorem dX1_survey_0 : decode cX1_survey 0 = .ok (.aload_n 0, 1) := by decide +kernel
theorem dX1_survey_1 : decode cX1_survey 1 = .ok (.iconst 0, 1) := by decide +kernel
theorem dX1_survey_2 : decode cX1_survey 2 = .ok (.putfield 29, 3) := by decide +kernel
theorem dX1_survey_5 : decode cX1_survey 5 = .ok (.aload_n 0, 1) := by decide +kernel
theorem dX1_survey_6 : decode cX1_survey 6 = .ok (.iconst 0, 1) := by decide +kernel
theorem dX1_survey_7 : decode cX1_survey 7 = .ok (.putfield 32, 3) := by decide +kernel
theorem dX1_survey_10 : decode cX1_survey 10 = .ok (.aload_n 0, 1) := by decide +kernel
theorem dX1_survey_11 : decode cX1_survey 11 = .ok (.iconst 0, 1) := by decide +kernel
theorem dX1_survey_12 : decode cX1_survey 12 = .ok (.putfield 35, 3) := by decide +kernel
theorem dX1_survey_15 : decode cX1_survey 15 = .ok (.iconst 1, 1) := by decide +kernel
theorem dX1_survey_16 : decode cX1_survey 16 = .ok (.istore_n 3, 1) := by decide +kernel
theorem dX1_survey_17 : decode cX1_survey 17 = .ok (.iconst 0, 1) := by decide +kernel
theorem dX1_survey_18 : decode cX1_survey 18 = .ok (.istore 4, 2) := by decide +kernel
theorem dX1_survey_20 : decode cX1_survey 20 = .ok (.iload 4, 2) := by decide +kernel
theorem dX1_survey_22 : decode cX1_survey 22 = .ok (.iconst 3, 1) := by decide +kernel
theorem dX1_survey_23 : decode cX1_survey 23 = .ok (.if_icmp .gt 52, 3) := by decide +kernel
theorem dX1_survey_26 : decode cX1_survey 26 = .ok (.iconst 0, 1) := by decide +kernel
theorem dX1_survey_27 : decode cX1_survey 27 = .ok (.istore 5, 2) := by decide +kernel
theorem dX1_survey_29 : decode cX1_survey 29 = .ok (.iload 5, 2) := by decide +kernel
theorem dX1_survey_31 : decode cX1_survey 31 = .ok (.iload_n 3, 1) := by decide +kernel
theorem dX1_survey_32 : decode cX1_survey 32 = .ok (.if_icmp .ge 28, 3) := by decide +kernel
theorem dX1_survey_35 : decode cX1_survey 35 = .ok (.aload_n 0, 1) := by decide +kernel
theorem dX1_survey_36 : decode cX1_survey 36 = .ok (.aload_n 1, 1) := by decide +kernel
theorem dX1_survey_37 : decode cX1_survey 37 = .ok (.iload 5, 2) := by decide +kernel
theorem dX1_survey_39 : decode cX1_survey 39 = .ok (.iload 4, 2) := by decide +kernel
theorem dX1_survey_41 : decode cX1_survey 41 = .ok (.invokevirtual 38, 3) := by decide +kernel
theorem dX1_survey_44 : decode cX1_survey 44 = .ok (.ifCond .eq 10, 3) := by decide +kernel
theorem dX1_survey_47 : decode cX1_survey 47 = .ok (.aload_n 0, 1) := by decide +kernel
theorem dX1_survey_48 : decode cX1_survey 48 = .ok (.iload 4, 2) := by decide +kernel
theorem dX1_survey_50 : decode cX1_survey 50 = .ok (.iload_n 2, 1) := by decide +kernel
theorem dX1_survey_51 : decode cX1_survey 51 = .ok (.invokevirtual 42, 3) := by decide +kernel
theorem dX1_survey_54 : decode cX1_survey 54 = .ok (.iinc 5 1, 3) := by decide +kernel
theorem dX1_survey_57 : decode cX1_survey 57 = .ok (.goto (-28), 3) := by decide +kernel
theorem dX1_survey_60 : decode cX1_survey 60 = .ok (.iload_n 3, 1) := by decide +kernel
theorem dX1_survey_61 : decode cX1_survey 61 = .ok (.aload_n 1, 1) := by decide +kernel
theorem dX1_survey_62 : decode cX1_survey 62 = .ok (.getfield 46, 3) := by decide +kernel
theorem dX1_survey_65 : decode cX1_survey 65 = .ok (.iconst 1, 1) := by decide +kernel
theorem dX1_survey_66 : decode cX1_survey 66 = .ok (.iaload, 1) := by decide +kernel
theorem dX1_survey_67 : decode cX1_survey 67 = .ok (.imul, 1) := by decide +kernel
theorem dX1_survey_68 : decode cX1_survey 68 = .ok (.istore_n 3, 1) := by decide +kernel
theorem dX1_survey_69 : decode cX1_survey 69 = .ok (.iinc 4 1, 3) := by decide +kernel
theorem dX1_survey_72 : decode cX1_survey 72 = .ok (.goto (-52), 3) := by decide +kernel
theorem dX1_survey_75 : decode cX1_survey 75 = .ok (.return_, 1) := by decide +kernel
theorem dX1_isRow_0 : decode cX1_isRow 0 = .ok (.aload_n 1, 1) := by decide +kernel
theorem dX1_isRow_1 : decode cX1_isRow 1 = .ok (.getfield 46, 3) := by decide +kernel
theorem dX1_isRow_4 : decode cX1_isRow 4 = .ok (.iconst 1, 1) := by decide +kernel
theorem dX1_isRow_5 : decode cX1_isRow 5 = .ok (.iaload, 1) := by decide +kernel
theorem dX1_isRow_6 : decode cX1_isRow 6 = .ok (.istore 4, 2) := by decide +kernel
theorem dX1_isRow_8 : decode cX1_isRow 8 = .ok (.iload_n 2, 1) := by decide +kernel
theorem dX1_isRow_9 : decode cX1_isRow 9 = .ok (.istore 5, 2) := by decide +kernel
theorem dX1_isRow_11 : decode cX1_isRow 11 = .ok (.iconst 0, 1) := by decide +kernel
theorem dX1_isRow_12 : decode cX1_isRow 12 = .ok (.istore 6, 2) := by decide +kernel
theorem dX1_isRow_14 : decode cX1_isRow 14 = .ok (.iload_n 3, 1) := by decide +kernel
theorem dX1_isRow_15 : decode cX1_isRow 15 = .ok (.iconst 1, 1) := by decide +kernel
theorem dX1_isRow_16 : decode cX1_isRow 16 = .ok (.isub, 1) := by decide +kernel
theorem dX1_isRow_17 : decode cX1_isRow 17 = .ok (.istore 7, 2) := by decide +kernel
theorem dX1_isRow_19 : decode cX1_isRow 19 = .ok (.iload 7, 2) := by decide +kernel
theorem dX1_isRow_21 : decode cX1_isRow 21 = .ok (.ifCond .lt 76, 3) := by decide +kernel
theorem dX1_isRow_24 : decode cX1_isRow 24 = .ok (.iload 7, 2) := by decide +kernel
theorem dX1_isRow_26 : decode cX1_isRow 26 = .ok (.iconst 3, 1) := by decide +kernel
theorem dX1_isRow_27 : decode cX1_isRow 27 = .ok (.if_icmp .ge 70, 3) := by decide +kernel
theorem dX1_isRow_30 : decode cX1_isRow 30 = .ok (.iload 4, 2) := by decide +kernel
theorem dX1_isRow_32 : decode cX1_isRow 32 = .ok (.ifCond .le 65, 3) := by decide +kernel
theorem dX1_isRow_35 : decode cX1_isRow 35 = .ok (.iload 5, 2) := by decide +kernel
theorem dX1_isRow_37 : decode cX1_isRow 37 = .ok (.iload 4, 2) := by decide +kernel
theorem dX1_isRow_39 : decode cX1_isRow 39 = .ok (.irem, 1) := by decide +kernel
theorem dX1_isRow_40 : decode cX1_isRow 40 = .ok (.istore 8, 2) := by decide +kernel
theorem dX1_isRow_42 : decode cX1_isRow 42 = .ok (.aload_n 1, 1) := by decide +kernel
theorem dX1_isRow_43 : decode cX1_isRow 43 = .ok (.getfield 51, 3) := by decide +kernel
theorem dX1_isRow_46 : decode cX1_isRow 46 = .ok (.iload 8, 2) := by decide +kernel
theorem dX1_isRow_48 : decode cX1_isRow 48 = .ok (.ishr, 1) := by decide +kernel
theorem dX1_isRow_49 : decode cX1_isRow 49 = .ok (.iconst 1, 1) := by decide +kernel
theorem dX1_isRow_50 : decode cX1_isRow 50 = .ok (.iand, 1) := by decide +kernel
theorem dX1_isRow_51 : decode cX1_isRow 51 = .ok (.ifCond .eq 13, 3) := by decide +kernel
theorem dX1_isRow_54 : decode cX1_isRow 54 = .ok (.iload 6, 2) := by decide +kernel
theorem dX1_isRow_56 : decode cX1_isRow 56 = .ok (.iload 8, 2) := by decide +kernel
theorem dX1_isRow_58 : decode cX1_isRow 58 = .ok (.ishr, 1) := by decide +kernel
theorem dX1_isRow_59 : decode cX1_isRow 59 = .ok (.iconst 1, 1) := by decide +kernel
theorem dX1_isRow_60 : decode cX1_isRow 60 = .ok (.iand, 1) := by decide +kernel
theorem dX1_isRow_61 : decode cX1_isRow 61 = .ok (.ifCond .eq 5, 3) := by decide +kernel
theorem dX1_isRow_64 : decode cX1_isRow 64 = .ok (.iconst 0, 1) := by decide +kernel
theorem dX1_isRow_65 : decode cX1_isRow 65 = .ok (.ireturn, 1) := by decide +kernel
theorem dX1_isRow_66 : decode cX1_isRow 66 = .ok (.iload 6, 2) := by decide +kernel
theorem dX1_isRow_68 : decode cX1_isRow 68 = .ok (.iconst 1, 1) := by decide +kernel
theorem dX1_isRow_69 : decode cX1_isRow 69 = .ok (.iload 8, 2) := by decide +kernel
theorem dX1_isRow_71 : decode cX1_isRow 71 = .ok (.ishl, 1) := by decide +kernel
theorem dX1_isRow_72 : decode cX1_isRow 72 = .ok (.ior, 1) := by decide +kernel
theorem dX1_isRow_73 : decode cX1_isRow 73 = .ok (.istore 6, 2) := by decide +kernel
theorem dX1_isRow_75 : decode cX1_isRow 75 = .ok (.aload_n 0, 1) := by decide +kernel
theorem dX1_isRow_76 : decode cX1_isRow 76 = .ok (.getfield 22, 3) := by decide +kernel
theorem dX1_isRow_79 : decode cX1_isRow 79 = .ok (.iload 7, 2) := by decide +kernel
theorem dX1_isRow_81 : decode cX1_isRow 81 = .ok (.iload 8, 2) := by decide +kernel
theorem dX1_isRow_83 : decode cX1_isRow 83 = .ok (.iastore, 1) := by decide +kernel
theorem dX1_isRow_84 : decode cX1_isRow 84 = .ok (.iload 5, 2) := by decide +kernel
theorem dX1_isRow_86 : decode cX1_isRow 86 = .ok (.iload 4, 2) := by decide +kernel
theorem dX1_isRow_88 : decode cX1_isRow 88 = .ok (.idiv, 1) := by decide +kernel
theorem dX1_isRow_89 : decode cX1_isRow 89 = .ok (.istore 5, 2) := by decide +kernel
theorem dX1_isRow_91 : decode cX1_isRow 91 = .ok (.iinc 7 (-1), 3) := by decide +kernel
theorem dX1_isRow_94 : decode cX1_isRow 94 = .ok (.goto (-75), 3) := by decide +kernel
theorem dX1_isRow_97 : decode cX1_isRow 97 = .ok (.iconst 1, 1) := by decide +kernel
theorem dX1_isRow_98 : decode cX1_isRow 98 = .ok (.ireturn, 1) := by decide +kernel
theorem dX1_weigh_0 : decode cX1_weigh 0 = .ok (.aload_n 0, 1) := by decide +kernel
theorem dX1_weigh_1 : decode cX1_weigh 1 = .ok (.iload_n 1, 1) := by decide +kernel
theorem dX1_weigh_2 : decode cX1_weigh 2 = .ok (.invokevirtual 54, 3) := by decide +kernel
theorem dX1_weigh_5 : decode cX1_weigh 5 = .ok (.istore_n 3, 1) := by decide +kernel
theorem dX1_weigh_6 : decode cX1_weigh 6 = .ok (.iload_n 3, 1) := by decide +kernel
theorem dX1_weigh_7 : decode cX1_weigh 7 = .ok (.iconst (-1), 1) := by decide +kernel
theorem dX1_weigh_8 : decode cX1_weigh 8 = .ok (.if_icmp .ne 4, 3) := by decide +kernel
theorem dX1_weigh_11 : decode cX1_weigh 11 = .ok (.return_, 1) := by decide +kernel
theorem dX1_weigh_12 : decode cX1_weigh 12 = .ok (.aload_n 0, 1) := by decide +kernel
theorem dX1_weigh_13 : decode cX1_weigh 13 = .ok (.getfield 29, 3) := by decide +kernel
theorem dX1_weigh_16 : decode cX1_weigh 16 = .ok (.ifCond .ne 37, 3) := by decide +kernel
theorem dX1_weigh_19 : decode cX1_weigh 19 = .ok (.aload_n 0, 1) := by decide +kernel
theorem dX1_weigh_20 : decode cX1_weigh 20 = .ok (.iload_n 1, 1) := by decide +kernel
theorem dX1_weigh_21 : decode cX1_weigh 21 = .ok (.putfield 32, 3) := by decide +kernel
theorem dX1_weigh_24 : decode cX1_weigh 24 = .ok (.iconst 0, 1) := by decide +kernel
theorem dX1_weigh_25 : decode cX1_weigh 25 = .ok (.istore 4, 2) := by decide +kernel
theorem dX1_weigh_27 : decode cX1_weigh 27 = .ok (.iload 4, 2) := by decide +kernel
theorem dX1_weigh_29 : decode cX1_weigh 29 = .ok (.iconst 3, 1) := by decide +kernel
theorem dX1_weigh_30 : decode cX1_weigh 30 = .ok (.if_icmp .ge 23, 3) := by decide +kernel
theorem dX1_weigh_33 : decode cX1_weigh 33 = .ok (.aload_n 0, 1) := by decide +kernel
theorem dX1_weigh_34 : decode cX1_weigh 34 = .ok (.getfield 19, 3) := by decide +kernel
theorem dX1_weigh_37 : decode cX1_weigh 37 = .ok (.iload 4, 2) := by decide +kernel
theorem dX1_weigh_39 : decode cX1_weigh 39 = .ok (.aload_n 0, 1) := by decide +kernel
theorem dX1_weigh_40 : decode cX1_weigh 40 = .ok (.getfield 22, 3) := by decide +kernel
theorem dX1_weigh_43 : decode cX1_weigh 43 = .ok (.iload 4, 2) := by decide +kernel
theorem dX1_weigh_45 : decode cX1_weigh 45 = .ok (.iaload, 1) := by decide +kernel
theorem dX1_weigh_46 : decode cX1_weigh 46 = .ok (.iastore, 1) := by decide +kernel
theorem dX1_weigh_47 : decode cX1_weigh 47 = .ok (.iinc 4 1, 3) := by decide +kernel
theorem dX1_weigh_50 : decode cX1_weigh 50 = .ok (.goto (-23), 3) := by decide +kernel
theorem dX1_weigh_53 : decode cX1_weigh 53 = .ok (.aload_n 0, 1) := by decide +kernel
theorem dX1_weigh_54 : decode cX1_weigh 54 = .ok (.dup, 1) := by decide +kernel
theorem dX1_weigh_55 : decode cX1_weigh 55 = .ok (.getfield 29, 3) := by decide +kernel
theorem dX1_weigh_58 : decode cX1_weigh 58 = .ok (.iconst 1, 1) := by decide +kernel
theorem dX1_weigh_59 : decode cX1_weigh 59 = .ok (.iadd, 1) := by decide +kernel
theorem dX1_weigh_60 : decode cX1_weigh 60 = .ok (.putfield 29, 3) := by decide +kernel
theorem dX1_weigh_63 : decode cX1_weigh 63 = .ok (.aload_n 0, 1) := by decide +kernel
theorem dX1_weigh_64 : decode cX1_weigh 64 = .ok (.iload_n 3, 1) := by decide +kernel
theorem dX1_weigh_65 : decode cX1_weigh 65 = .ok (.invokevirtual 58, 3) := by decide +kernel
theorem dX1_weigh_68 : decode cX1_weigh 68 = .ok (.iload_n 2, 1) := by decide +kernel
theorem dX1_weigh_69 : decode cX1_weigh 69 = .ok (.if_icmp .ne 13, 3) := by decide +kernel
theorem dX1_weigh_72 : decode cX1_weigh 72 = .ok (.aload_n 0, 1) := by decide +kernel
theorem dX1_weigh_73 : decode cX1_weigh 73 = .ok (.dup, 1) := by decide +kernel
theorem dX1_weigh_74 : decode cX1_weigh 74 = .ok (.getfield 35, 3) := by decide +kernel
theorem dX1_weigh_77 : decode cX1_weigh 77 = .ok (.iconst 1, 1) := by decide +kernel
theorem dX1_weigh_78 : decode cX1_weigh 78 = .ok (.iadd, 1) := by decide +kernel
theorem dX1_weigh_79 : decode cX1_weigh 79 = .ok (.putfield 35, 3) := by decide +kernel
theorem dX1_weigh_82 : decode cX1_weigh 82 = .ok (.return_, 1) := by decide +kernel
theorem dX1_leftOf_0 : decode cX1_leftOf 0 = .ok (.iload_n 1, 1) := by decide +kernel
theorem dX1_leftOf_1 : decode cX1_leftOf 1 = .ok (.istore_n 2, 1) := by decide +kernel
theorem dX1_leftOf_2 : decode cX1_leftOf 2 = .ok (.iconst 0, 1) := by decide +kernel
theorem dX1_leftOf_3 : decode cX1_leftOf 3 = .ok (.istore_n 3, 1) := by decide +kernel
theorem dX1_leftOf_4 : decode cX1_leftOf 4 = .ok (.iload_n 3, 1) := by decide +kernel
theorem dX1_leftOf_5 : decode cX1_leftOf 5 = .ok (.aload_n 0, 1) := by decide +kernel
theorem dX1_leftOf_6 : decode cX1_leftOf 6 = .ok (.getfield 25, 3) := by decide +kernel
theorem dX1_leftOf_9 : decode cX1_leftOf 9 = .ok (.if_icmp .ge 57, 3) := by decide +kernel
theorem dX1_leftOf_12 : decode cX1_leftOf 12 = .ok (.iload_n 3, 1) := by decide +kernel
theorem dX1_leftOf_13 : decode cX1_leftOf 13 = .ok (.bipush 20, 2) := by decide +kernel
theorem dX1_leftOf_15 : decode cX1_leftOf 15 = .ok (.if_icmp .ge 51, 3) := by decide +kernel
theorem dX1_leftOf_18 : decode cX1_leftOf 18 = .ok (.aload_n 0, 1) := by decide +kernel
theorem dX1_leftOf_19 : decode cX1_leftOf 19 = .ok (.iload_n 2, 1) := by decide +kernel
theorem dX1_leftOf_20 : decode cX1_leftOf 20 = .ok (.invokevirtual 58, 3) := by decide +kernel
theorem dX1_leftOf_23 : decode cX1_leftOf 23 = .ok (.aload_n 0, 1) := by decide +kernel
theorem dX1_leftOf_24 : decode cX1_leftOf 24 = .ok (.getfield 11, 3) := by decide +kernel
theorem dX1_leftOf_27 : decode cX1_leftOf 27 = .ok (.iload_n 3, 1) := by decide +kernel
theorem dX1_leftOf_28 : decode cX1_leftOf 28 = .ok (.iaload, 1) := by decide +kernel
theorem dX1_leftOf_29 : decode cX1_leftOf 29 = .ok (.if_icmp .ne 7, 3) := by decide +kernel
theorem dX1_leftOf_32 : decode cX1_leftOf 32 = .ok (.iconst 1, 1) := by decide +kernel
theorem dX1_leftOf_33 : decode cX1_leftOf 33 = .ok (.goto 4, 3) := by decide +kernel
theorem dX1_leftOf_36 : decode cX1_leftOf 36 = .ok (.iconst 0, 1) := by decide +kernel
theorem dX1_leftOf_37 : decode cX1_leftOf 37 = .ok (.aload_n 0, 1) := by decide +kernel
theorem dX1_leftOf_38 : decode cX1_leftOf 38 = .ok (.getfield 15, 3) := by decide +kernel
theorem dX1_leftOf_41 : decode cX1_leftOf 41 = .ok (.iload_n 3, 1) := by decide +kernel
theorem dX1_leftOf_42 : decode cX1_leftOf 42 = .ok (.baload, 1) := by decide +kernel
theorem dX1_leftOf_43 : decode cX1_leftOf 43 = .ok (.if_icmp .eq 5, 3) := by decide +kernel
theorem dX1_leftOf_46 : decode cX1_leftOf 46 = .ok (.iconst (-1), 1) := by decide +kernel
theorem dX1_leftOf_47 : decode cX1_leftOf 47 = .ok (.ireturn, 1) := by decide +kernel
theorem dX1_leftOf_48 : decode cX1_leftOf 48 = .ok (.aload_n 0, 1) := by decide +kernel
theorem dX1_leftOf_49 : decode cX1_leftOf 49 = .ok (.getfield 15, 3) := by decide +kernel
theorem dX1_leftOf_52 : decode cX1_leftOf 52 = .ok (.iload_n 3, 1) := by decide +kernel
theorem dX1_leftOf_53 : decode cX1_leftOf 53 = .ok (.baload, 1) := by decide +kernel
theorem dX1_leftOf_54 : decode cX1_leftOf 54 = .ok (.ifCond .eq 6, 3) := by decide +kernel
theorem dX1_leftOf_57 : decode cX1_leftOf 57 = .ok (.iinc 2 (-1), 3) := by decide +kernel
theorem dX1_leftOf_60 : decode cX1_leftOf 60 = .ok (.iinc 3 1, 3) := by decide +kernel
theorem dX1_leftOf_63 : decode cX1_leftOf 63 = .ok (.goto (-59), 3) := by decide +kernel
theorem dX1_leftOf_66 : decode cX1_leftOf 66 = .ok (.iload_n 2, 1) := by decide +kernel
theorem dX1_leftOf_67 : decode cX1_leftOf 67 = .ok (.ireturn, 1) := by decide +kernel
theorem dX1_topOf_0 : decode cX1_topOf 0 = .ok (.iload_n 1, 1) := by decide +kernel
theorem dX1_topOf_1 : decode cX1_topOf 1 = .ok (.ifCond .le 19, 3) := by decide +kernel
theorem dX1_topOf_4 : decode cX1_topOf 4 = .ok (.iload_n 1, 1) := by decide +kernel
theorem dX1_topOf_5 : decode cX1_topOf 5 = .ok (.iconst 3, 1) := by decide +kernel
theorem dX1_topOf_6 : decode cX1_topOf 6 = .ok (.if_icmp .gt 14, 3) := by decide +kernel
theorem dX1_topOf_9 : decode cX1_topOf 9 = .ok (.aload_n 0, 1) := by decide +kernel
theorem dX1_topOf_10 : decode cX1_topOf 10 = .ok (.getfield 22, 3) := by decide +kernel
theorem dX1_topOf_13 : decode cX1_topOf 13 = .ok (.iload_n 1, 1) := by decide +kernel
theorem dX1_topOf_14 : decode cX1_topOf 14 = .ok (.iconst 1, 1) := by decide +kernel
theorem dX1_topOf_15 : decode cX1_topOf 15 = .ok (.isub, 1) := by decide +kernel
theorem dX1_topOf_16 : decode cX1_topOf 16 = .ok (.iaload, 1) := by decide +kernel
theorem dX1_topOf_17 : decode cX1_topOf 17 = .ok (.goto 4, 3) := by decide +kernel
theorem dX1_topOf_20 : decode cX1_topOf 20 = .ok (.iconst (-1), 1) := by decide +kernel
theorem dX1_topOf_21 : decode cX1_topOf 21 = .ok (.ireturn, 1) := by decide +kernel
theorem dX2_areCrossing_0 : decode cX2_areCrossing 0 = .ok (.aload_n 0, 1) := by decide +kernel
theorem dX2_areCrossing_1 : decode cX2_areCrossing 1 = .ok (.bipush 6, 2) := by decide +kernel
theorem dX2_areCrossing_3 : decode cX2_areCrossing 3 = .ok (.iload_n 1, 1) := by decide +kernel
theorem dX2_areCrossing_4 : decode cX2_areCrossing 4 = .ok (.invokevirtual 30, 3) := by decide +kernel
theorem dX2_areCrossing_7 : decode cX2_areCrossing 7 = .ok (.ifCond .eq 13, 3) := by decide +kernel
theorem dX2_areCrossing_10 : decode cX2_areCrossing 10 = .ok (.aload_n 0, 1) := by decide +kernel
theorem dX2_areCrossing_11 : decode cX2_areCrossing 11 = .ok (.bipush 6, 2) := by decide +kernel
theorem dX2_areCrossing_13 : decode cX2_areCrossing 13 = .ok (.iload_n 2, 1) := by decide +kernel
theorem dX2_areCrossing_14 : decode cX2_areCrossing 14 = .ok (.invokevirtual 30, 3) := by decide +kernel
theorem dX2_areCrossing_17 : decode cX2_areCrossing 17 = .ok (.ifCond .ne 5, 3) := by decide +kernel
theorem dX2_areCrossing_20 : decode cX2_areCrossing 20 = .ok (.iconst 0, 1) := by decide +kernel
theorem dX2_areCrossing_21 : decode cX2_areCrossing 21 = .ok (.ireturn, 1) := by decide +kernel
theorem dX2_areCrossing_22 : decode cX2_areCrossing 22 = .ok (.aload_n 0, 1) := by decide +kernel
theorem dX2_areCrossing_23 : decode cX2_areCrossing 23 = .ok (.getfield 34, 3) := by decide +kernel
theorem dX2_areCrossing_26 : decode cX2_areCrossing 26 = .ok (.iload_n 1, 1) := by decide +kernel
theorem dX2_areCrossing_27 : decode cX2_areCrossing 27 = .ok (.iaload, 1) := by decide +kernel
theorem dX2_areCrossing_28 : decode cX2_areCrossing 28 = .ok (.istore_n 3, 1) := by decide +kernel
theorem dX2_areCrossing_29 : decode cX2_areCrossing 29 = .ok (.aload_n 0, 1) := by decide +kernel
theorem dX2_areCrossing_30 : decode cX2_areCrossing 30 = .ok (.getfield 37, 3) := by decide +kernel
theorem dX2_areCrossing_33 : decode cX2_areCrossing 33 = .ok (.iload_n 1, 1) := by decide +kernel
theorem dX2_areCrossing_34 : decode cX2_areCrossing 34 = .ok (.iaload, 1) := by decide +kernel
theorem dX2_areCrossing_35 : decode cX2_areCrossing 35 = .ok (.istore 4, 2) := by decide +kernel
theorem dX2_areCrossing_37 : decode cX2_areCrossing 37 = .ok (.aload_n 0, 1) := by decide +kernel
theorem dX2_areCrossing_38 : decode cX2_areCrossing 38 = .ok (.getfield 34, 3) := by decide +kernel
theorem dX2_areCrossing_41 : decode cX2_areCrossing 41 = .ok (.iload_n 2, 1) := by decide +kernel
theorem dX2_areCrossing_42 : decode cX2_areCrossing 42 = .ok (.iaload, 1) := by decide +kernel
theorem dX2_areCrossing_43 : decode cX2_areCrossing 43 = .ok (.istore 5, 2) := by decide +kernel
theorem dX2_areCrossing_45 : decode cX2_areCrossing 45 = .ok (.aload_n 0, 1) := by decide +kernel
theorem dX2_areCrossing_46 : decode cX2_areCrossing 46 = .ok (.getfield 37, 3) := by decide +kernel
theorem dX2_areCrossing_49 : decode cX2_areCrossing 49 = .ok (.iload_n 2, 1) := by decide +kernel
theorem dX2_areCrossing_50 : decode cX2_areCrossing 50 = .ok (.iaload, 1) := by decide +kernel
theorem dX2_areCrossing_51 : decode cX2_areCrossing 51 = .ok (.istore 6, 2) := by decide +kernel
theorem dX2_areCrossing_53 : decode cX2_areCrossing 53 = .ok (.aload_n 0, 1) := by decide +kernel
theorem dX2_areCrossing_54 : decode cX2_areCrossing 54 = .ok (.getfield 40, 3) := by decide +kernel
theorem dX2_areCrossing_57 : decode cX2_areCrossing 57 = .ok (.iload_n 1, 1) := by decide +kernel
theorem dX2_areCrossing_58 : decode cX2_areCrossing 58 = .ok (.iaload, 1) := by decide +kernel
theorem dX2_areCrossing_59 : decode cX2_areCrossing 59 = .ok (.aload_n 0, 1) := by decide +kernel
theorem dX2_areCrossing_60 : decode cX2_areCrossing 60 = .ok (.getfield 40, 3) := by decide +kernel
theorem dX2_areCrossing_63 : decode cX2_areCrossing 63 = .ok (.iload_n 2, 1) := by decide +kernel
theorem dX2_areCrossing_64 : decode cX2_areCrossing 64 = .ok (.iaload, 1) := by decide +kernel
theorem dX2_areCrossing_65 : decode cX2_areCrossing 65 = .ok (.if_icmp .ne 18, 3) := by decide +kernel
theorem dX2_areCrossing_68 : decode cX2_areCrossing 68 = .ok (.iload_n 3, 1) := by decide +kernel
theorem dX2_areCrossing_69 : decode cX2_areCrossing 69 = .ok (.iload 6, 2) := by decide +kernel
theorem dX2_areCrossing_71 : decode cX2_areCrossing 71 = .ok (.if_icmp .ge 12, 3) := by decide +kernel
theorem dX2_areCrossing_74 : decode cX2_areCrossing 74 = .ok (.iload 5, 2) := by decide +kernel
theorem dX2_areCrossing_76 : decode cX2_areCrossing 76 = .ok (.iload 4, 2) := by decide +kernel
theorem dX2_areCrossing_78 : decode cX2_areCrossing 78 = .ok (.if_icmp .ge 5, 3) := by decide +kernel
theorem dX2_areCrossing_81 : decode cX2_areCrossing 81 = .ok (.iconst 1, 1) := by decide +kernel
theorem dX2_areCrossing_82 : decode cX2_areCrossing 82 = .ok (.ireturn, 1) := by decide +kernel
theorem dX2_areCrossing_83 : decode cX2_areCrossing 83 = .ok (.iload_n 3, 1) := by decide +kernel
theorem dX2_areCrossing_84 : decode cX2_areCrossing 84 = .ok (.iload 5, 2) := by decide +kernel
theorem dX2_areCrossing_86 : decode cX2_areCrossing 86 = .ok (.if_icmp .ge 17, 3) := by decide +kernel
theorem dX2_areCrossing_89 : decode cX2_areCrossing 89 = .ok (.iload 5, 2) := by decide +kernel
theorem dX2_areCrossing_91 : decode cX2_areCrossing 91 = .ok (.iload 4, 2) := by decide +kernel
theorem dX2_areCrossing_93 : decode cX2_areCrossing 93 = .ok (.if_icmp .ge 10, 3) := by decide +kernel
theorem dX2_areCrossing_96 : decode cX2_areCrossing 96 = .ok (.iload 4, 2) := by decide +kernel
theorem dX2_areCrossing_98 : decode cX2_areCrossing 98 = .ok (.iload 6, 2) := by decide +kernel
theorem dX2_areCrossing_100 : decode cX2_areCrossing 100 = .ok (.if_icmp .lt 22, 3) := by decide +kernel
theorem dX2_areCrossing_103 : decode cX2_areCrossing 103 = .ok (.iload 5, 2) := by decide +kernel
theorem dX2_areCrossing_105 : decode cX2_areCrossing 105 = .ok (.iload_n 3, 1) := by decide +kernel
theorem dX2_areCrossing_106 : decode cX2_areCrossing 106 = .ok (.if_icmp .ge 20, 3) := by decide +kernel
theorem dX2_areCrossing_109 : decode cX2_areCrossing 109 = .ok (.iload_n 3, 1) := by decide +kernel
theorem dX2_areCrossing_110 : decode cX2_areCrossing 110 = .ok (.iload 6, 2) := by decide +kernel
theorem dX2_areCrossing_112 : decode cX2_areCrossing 112 = .ok (.if_icmp .ge 14, 3) := by decide +kernel
theorem dX2_areCrossing_115 : decode cX2_areCrossing 115 = .ok (.iload 6, 2) := by decide +kernel
theorem dX2_areCrossing_117 : decode cX2_areCrossing 117 = .ok (.iload 4, 2) := by decide +kernel
theorem dX2_areCrossing_119 : decode cX2_areCrossing 119 = .ok (.if_icmp .ge 7, 3) := by decide +kernel
theorem dX2_areCrossing_122 : decode cX2_areCrossing 122 = .ok (.iconst 1, 1) := by decide +kernel
theorem dX2_areCrossing_123 : decode cX2_areCrossing 123 = .ok (.goto 4, 3) := by decide +kernel
theorem dX2_areCrossing_126 : decode cX2_areCrossing 126 = .ok (.iconst 0, 1) := by decide +kernel
theorem dX2_areCrossing_127 : decode cX2_areCrossing 127 = .ok (.ireturn, 1) := by decide +kernel
