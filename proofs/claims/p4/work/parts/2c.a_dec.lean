theorem dX0_placesOf_0 : decode cX0_placesOf 0 = .ok (.aload_n 0, 1) := by decide +kernel
theorem dX0_placesOf_1 : decode cX0_placesOf 1 = .ok (.aload_n 1, 1) := by decide +kernel
theorem dX0_placesOf_2 : decode cX0_placesOf 2 = .ok (.iload_n 2, 1) := by decide +kernel
theorem dX0_placesOf_3 : decode cX0_placesOf 3 = .ok (.aload_n 1, 1) := by decide +kernel
theorem dX0_placesOf_4 : decode cX0_placesOf 4 = .ok (.iload_n 2, 1) := by decide +kernel
theorem dX0_placesOf_5 : decode cX0_placesOf 5 = .ok (.invokevirtual 67, 3) := by decide +kernel
theorem dX0_placesOf_8 : decode cX0_placesOf 8 = .ok (.iconst 3, 1) := by decide +kernel
theorem dX0_placesOf_9 : decode cX0_placesOf 9 = .ok (.iconst 1, 1) := by decide +kernel
theorem dX0_placesOf_10 : decode cX0_placesOf 10 = .ok (.aload_n 1, 1) := by decide +kernel
theorem dX0_placesOf_11 : decode cX0_placesOf 11 = .ok (.getfield 73, 3) := by decide +kernel
theorem dX0_placesOf_14 : decode cX0_placesOf 14 = .ok (.iconst 0, 1) := by decide +kernel
theorem dX0_placesOf_15 : decode cX0_placesOf 15 = .ok (.iaload, 1) := by decide +kernel
theorem dX0_placesOf_16 : decode cX0_placesOf 16 = .ok (.ishl, 1) := by decide +kernel
theorem dX0_placesOf_17 : decode cX0_placesOf 17 = .ok (.iconst 1, 1) := by decide +kernel
theorem dX0_placesOf_18 : decode cX0_placesOf 18 = .ok (.isub, 1) := by decide +kernel
theorem dX0_placesOf_19 : decode cX0_placesOf 19 = .ok (.invokevirtual 76, 3) := by decide +kernel
theorem dX0_placesOf_22 : decode cX0_placesOf 22 = .ok (.pop, 1) := by decide +kernel
theorem dX0_placesOf_23 : decode cX0_placesOf 23 = .ok (.aload_n 0, 1) := by decide +kernel
theorem dX0_placesOf_24 : decode cX0_placesOf 24 = .ok (.getfield 61, 3) := by decide +kernel
theorem dX0_placesOf_27 : decode cX0_placesOf 27 = .ok (.ireturn, 1) := by decide +kernel
theorem dX0_bestLent_0 : decode cX0_bestLent 0 = .ok (.aload_n 1, 1) := by decide +kernel
theorem dX0_bestLent_1 : decode cX0_bestLent 1 = .ok (.iload_n 2, 1) := by decide +kernel
theorem dX0_bestLent_2 : decode cX0_bestLent 2 = .ok (.invokevirtual 67, 3) := by decide +kernel
theorem dX0_bestLent_5 : decode cX0_bestLent 5 = .ok (.istore 4, 2) := by decide +kernel
theorem dX0_bestLent_7 : decode cX0_bestLent 7 = .ok (.iconst (-1), 1) := by decide +kernel
theorem dX0_bestLent_8 : decode cX0_bestLent 8 = .ok (.istore 5, 2) := by decide +kernel
theorem dX0_bestLent_10 : decode cX0_bestLent 10 = .ok (.aload_n 0, 1) := by decide +kernel
theorem dX0_bestLent_11 : decode cX0_bestLent 11 = .ok (.iconst (-1), 1) := by decide +kernel
theorem dX0_bestLent_12 : decode cX0_bestLent 12 = .ok (.putfield 64, 3) := by decide +kernel
theorem dX0_bestLent_15 : decode cX0_bestLent 15 = .ok (.iconst 0, 1) := by decide +kernel
theorem dX0_bestLent_16 : decode cX0_bestLent 16 = .ok (.istore 6, 2) := by decide +kernel
theorem dX0_bestLent_18 : decode cX0_bestLent 18 = .ok (.iload 6, 2) := by decide +kernel
theorem dX0_bestLent_20 : decode cX0_bestLent 20 = .ok (.aload_n 1, 1) := by decide +kernel
theorem dX0_bestLent_21 : decode cX0_bestLent 21 = .ok (.getfield 73, 3) := by decide +kernel
theorem dX0_bestLent_24 : decode cX0_bestLent 24 = .ok (.iconst 2, 1) := by decide +kernel
theorem dX0_bestLent_25 : decode cX0_bestLent 25 = .ok (.iaload, 1) := by decide +kernel
theorem dX0_bestLent_26 : decode cX0_bestLent 26 = .ok (.if_icmp .ge 82, 3) := by decide +kernel
theorem dX0_bestLent_29 : decode cX0_bestLent 29 = .ok (.iload 4, 2) := by decide +kernel
theorem dX0_bestLent_31 : decode cX0_bestLent 31 = .ok (.iload 6, 2) := by decide +kernel
theorem dX0_bestLent_33 : decode cX0_bestLent 33 = .ok (.ishr, 1) := by decide +kernel
theorem dX0_bestLent_34 : decode cX0_bestLent 34 = .ok (.iconst 1, 1) := by decide +kernel
theorem dX0_bestLent_35 : decode cX0_bestLent 35 = .ok (.iand, 1) := by decide +kernel
theorem dX0_bestLent_36 : decode cX0_bestLent 36 = .ok (.ifCond .ne 66, 3) := by decide +kernel
theorem dX0_bestLent_39 : decode cX0_bestLent 39 = .ok (.aload_n 1, 1) := by decide +kernel
theorem dX0_bestLent_40 : decode cX0_bestLent 40 = .ok (.getfield 80, 3) := by decide +kernel
theorem dX0_bestLent_43 : decode cX0_bestLent 43 = .ok (.getfield 84, 3) := by decide +kernel
theorem dX0_bestLent_46 : decode cX0_bestLent 46 = .ok (.iload 6, 2) := by decide +kernel
theorem dX0_bestLent_48 : decode cX0_bestLent 48 = .ok (.iaload, 1) := by decide +kernel
theorem dX0_bestLent_49 : decode cX0_bestLent 49 = .ok (.bipush 40, 2) := by decide +kernel
theorem dX0_bestLent_51 : decode cX0_bestLent 51 = .ok (.if_icmp .eq 51, 3) := by decide +kernel
theorem dX0_bestLent_54 : decode cX0_bestLent 54 = .ok (.aload_n 0, 1) := by decide +kernel
theorem dX0_bestLent_55 : decode cX0_bestLent 55 = .ok (.aload_n 1, 1) := by decide +kernel
theorem dX0_bestLent_56 : decode cX0_bestLent 56 = .ok (.iload_n 2, 1) := by decide +kernel
theorem dX0_bestLent_57 : decode cX0_bestLent 57 = .ok (.iload 4, 2) := by decide +kernel
theorem dX0_bestLent_59 : decode cX0_bestLent 59 = .ok (.iconst 1, 1) := by decide +kernel
theorem dX0_bestLent_60 : decode cX0_bestLent 60 = .ok (.iload 6, 2) := by decide +kernel
theorem dX0_bestLent_62 : decode cX0_bestLent 62 = .ok (.ishl, 1) := by decide +kernel
theorem dX0_bestLent_63 : decode cX0_bestLent 63 = .ok (.ior, 1) := by decide +kernel
theorem dX0_bestLent_64 : decode cX0_bestLent 64 = .ok (.iconst 0, 1) := by decide +kernel
theorem dX0_bestLent_65 : decode cX0_bestLent 65 = .ok (.iload_n 3, 1) := by decide +kernel
theorem dX0_bestLent_66 : decode cX0_bestLent 66 = .ok (.invokevirtual 76, 3) := by decide +kernel
theorem dX0_bestLent_69 : decode cX0_bestLent 69 = .ok (.istore 7, 2) := by decide +kernel
theorem dX0_bestLent_71 : decode cX0_bestLent 71 = .ok (.iload 7, 2) := by decide +kernel
theorem dX0_bestLent_73 : decode cX0_bestLent 73 = .ok (.iconst (-1), 1) := by decide +kernel
theorem dX0_bestLent_74 : decode cX0_bestLent 74 = .ok (.if_icmp .eq 28, 3) := by decide +kernel
theorem dX0_bestLent_77 : decode cX0_bestLent 77 = .ok (.iload 5, 2) := by decide +kernel
theorem dX0_bestLent_79 : decode cX0_bestLent 79 = .ok (.iconst (-1), 1) := by decide +kernel
theorem dX0_bestLent_80 : decode cX0_bestLent 80 = .ok (.if_icmp .eq 12, 3) := by decide +kernel
theorem dX0_bestLent_83 : decode cX0_bestLent 83 = .ok (.iload 7, 2) := by decide +kernel
theorem dX0_bestLent_85 : decode cX0_bestLent 85 = .ok (.aload_n 0, 1) := by decide +kernel
theorem dX0_bestLent_86 : decode cX0_bestLent 86 = .ok (.getfield 64, 3) := by decide +kernel
theorem dX0_bestLent_89 : decode cX0_bestLent 89 = .ok (.if_icmp .ge 13, 3) := by decide +kernel
theorem dX0_bestLent_92 : decode cX0_bestLent 92 = .ok (.iload 6, 2) := by decide +kernel
theorem dX0_bestLent_94 : decode cX0_bestLent 94 = .ok (.istore 5, 2) := by decide +kernel
theorem dX0_bestLent_96 : decode cX0_bestLent 96 = .ok (.aload_n 0, 1) := by decide +kernel
theorem dX0_bestLent_97 : decode cX0_bestLent 97 = .ok (.iload 7, 2) := by decide +kernel
theorem dX0_bestLent_99 : decode cX0_bestLent 99 = .ok (.putfield 64, 3) := by decide +kernel
theorem dX0_bestLent_102 : decode cX0_bestLent 102 = .ok (.iinc 6 1, 3) := by decide +kernel
theorem dX0_bestLent_105 : decode cX0_bestLent 105 = .ok (.goto (-87), 3) := by decide +kernel
theorem dX0_bestLent_108 : decode cX0_bestLent 108 = .ok (.iload 5, 2) := by decide +kernel
theorem dX0_bestLent_110 : decode cX0_bestLent 110 = .ok (.ireturn, 1) := by decide +kernel
theorem dX0_search_0 : decode cX0_search 0 = .ok (.aload_n 1, 1) := by decide +kernel
theorem dX0_search_1 : decode cX0_search 1 = .ok (.iconst 3, 1) := by decide +kernel
theorem dX0_search_2 : decode cX0_search 2 = .ok (.iload_n 2, 1) := by decide +kernel
theorem dX0_search_3 : decode cX0_search 3 = .ok (.invokevirtual 89, 3) := by decide +kernel
theorem dX0_search_6 : decode cX0_search 6 = .ok (.ifCond .ne 5, 3) := by decide +kernel
theorem dX0_search_9 : decode cX0_search 9 = .ok (.iconst (-1), 1) := by decide +kernel
theorem dX0_search_10 : decode cX0_search 10 = .ok (.ireturn, 1) := by decide +kernel
theorem dX0_search_11 : decode cX0_search 11 = .ok (.aload_n 0, 1) := by decide +kernel
theorem dX0_search_12 : decode cX0_search 12 = .ok (.iload 4, 2) := by decide +kernel
theorem dX0_search_14 : decode cX0_search 14 = .ok (.putfield 55, 3) := by decide +kernel
theorem dX0_search_17 : decode cX0_search 17 = .ok (.aload_n 0, 1) := by decide +kernel
theorem dX0_search_18 : decode cX0_search 18 = .ok (.iload 5, 2) := by decide +kernel
theorem dX0_search_20 : decode cX0_search 20 = .ok (.putfield 58, 3) := by decide +kernel
theorem dX0_search_23 : decode cX0_search 23 = .ok (.aload_n 0, 1) := by decide +kernel
theorem dX0_search_24 : decode cX0_search 24 = .ok (.iconst 0, 1) := by decide +kernel
theorem dX0_search_25 : decode cX0_search 25 = .ok (.putfield 61, 3) := by decide +kernel
theorem dX0_search_28 : decode cX0_search 28 = .ok (.aload_n 0, 1) := by decide +kernel
theorem dX0_search_29 : decode cX0_search 29 = .ok (.aload_n 1, 1) := by decide +kernel
theorem dX0_search_30 : decode cX0_search 30 = .ok (.iload_n 2, 1) := by decide +kernel
theorem dX0_search_31 : decode cX0_search 31 = .ok (.invokevirtual 93, 3) := by decide +kernel
theorem dX0_search_34 : decode cX0_search 34 = .ok (.aload_n 0, 1) := by decide +kernel
theorem dX0_search_35 : decode cX0_search 35 = .ok (.aload_n 1, 1) := by decide +kernel
theorem dX0_search_36 : decode cX0_search 36 = .ok (.iload_n 3, 1) := by decide +kernel
theorem dX0_search_37 : decode cX0_search 37 = .ok (.invokevirtual 97, 3) := by decide +kernel
theorem dX0_search_40 : decode cX0_search 40 = .ok (.aload_n 0, 1) := by decide +kernel
theorem dX0_search_41 : decode cX0_search 41 = .ok (.aload_n 1, 1) := by decide +kernel
theorem dX0_search_42 : decode cX0_search 42 = .ok (.invokevirtual 100, 3) := by decide +kernel
theorem dX0_search_45 : decode cX0_search 45 = .ok (.aload_n 0, 1) := by decide +kernel
theorem dX0_search_46 : decode cX0_search 46 = .ok (.aload_n 1, 1) := by decide +kernel
theorem dX0_search_47 : decode cX0_search 47 = .ok (.iload_n 2, 1) := by decide +kernel
theorem dX0_search_48 : decode cX0_search 48 = .ok (.iload_n 3, 1) := by decide +kernel
theorem dX0_search_49 : decode cX0_search 49 = .ok (.invokestatic 104, 3) := by decide +kernel
theorem dX0_search_52 : decode cX0_search 52 = .ok (.invokevirtual 109, 3) := by decide +kernel
theorem dX0_search_55 : decode cX0_search 55 = .ok (.aload_n 0, 1) := by decide +kernel
theorem dX0_search_56 : decode cX0_search 56 = .ok (.invokevirtual 113, 3) := by decide +kernel
theorem dX0_search_59 : decode cX0_search 59 = .ok (.aload_n 0, 1) := by decide +kernel
theorem dX0_search_60 : decode cX0_search 60 = .ok (.aload_n 1, 1) := by decide +kernel
theorem dX0_search_61 : decode cX0_search 61 = .ok (.aload_n 1, 1) := by decide +kernel
theorem dX0_search_62 : decode cX0_search 62 = .ok (.getfield 80, 3) := by decide +kernel
theorem dX0_search_65 : decode cX0_search 65 = .ok (.getfield 116, 3) := by decide +kernel
theorem dX0_search_68 : decode cX0_search 68 = .ok (.iload_n 2, 1) := by decide +kernel
theorem dX0_search_69 : decode cX0_search 69 = .ok (.iaload, 1) := by decide +kernel
theorem dX0_search_70 : decode cX0_search 70 = .ok (.iload_n 3, 1) := by decide +kernel
theorem dX0_search_71 : decode cX0_search 71 = .ok (.invokevirtual 119, 3) := by decide +kernel
theorem dX0_search_74 : decode cX0_search 74 = .ok (.iconst 0, 1) := by decide +kernel
theorem dX0_search_75 : decode cX0_search 75 = .ok (.istore 6, 2) := by decide +kernel
theorem dX0_search_77 : decode cX0_search 77 = .ok (.iload 6, 2) := by decide +kernel
theorem dX0_search_79 : decode cX0_search 79 = .ok (.aload_n 0, 1) := by decide +kernel
theorem dX0_search_80 : decode cX0_search 80 = .ok (.getfield 49, 3) := by decide +kernel
theorem dX0_search_83 : decode cX0_search 83 = .ok (.if_icmp .gt 29, 3) := by decide +kernel
theorem dX0_search_86 : decode cX0_search 86 = .ok (.aload_n 0, 1) := by decide +kernel
theorem dX0_search_87 : decode cX0_search 87 = .ok (.invokevirtual 122, 3) := by decide +kernel
theorem dX0_search_90 : decode cX0_search 90 = .ok (.ifCond .ne 5, 3) := by decide +kernel
theorem dX0_search_93 : decode cX0_search 93 = .ok (.iconst (-1), 1) := by decide +kernel
theorem dX0_search_94 : decode cX0_search 94 = .ok (.ireturn, 1) := by decide +kernel
theorem dX0_search_95 : decode cX0_search 95 = .ok (.aload_n 0, 1) := by decide +kernel
theorem dX0_search_96 : decode cX0_search 96 = .ok (.aload_n 1, 1) := by decide +kernel
theorem dX0_search_97 : decode cX0_search 97 = .ok (.invokevirtual 126, 3) := by decide +kernel
theorem dX0_search_100 : decode cX0_search 100 = .ok (.ifCond .eq 6, 3) := by decide +kernel
theorem dX0_search_103 : decode cX0_search 103 = .ok (.iload 6, 2) := by decide +kernel
theorem dX0_search_105 : decode cX0_search 105 = .ok (.ireturn, 1) := by decide +kernel
theorem dX0_search_106 : decode cX0_search 106 = .ok (.iinc 6 1, 3) := by decide +kernel
theorem dX0_search_109 : decode cX0_search 109 = .ok (.goto (-32), 3) := by decide +kernel
theorem dX0_search_112 : decode cX0_search 112 = .ok (.iconst (-1), 1) := by decide +kernel
theorem dX0_search_113 : decode cX0_search 113 = .ok (.ireturn, 1) := by decide +kernel
theorem dX0_searchLevel_0 : decode cX0_searchLevel 0 = .ok (.iconst 0, 1) := by decide +kernel
theorem dX0_searchLevel_1 : decode cX0_searchLevel 1 = .ok (.istore_n 2, 1) := by decide +kernel
theorem dX0_searchLevel_2 : decode cX0_searchLevel 2 = .ok (.iload_n 2, 1) := by decide +kernel
theorem dX0_searchLevel_3 : decode cX0_searchLevel 3 = .ok (.sipush 1201, 3) := by decide +kernel
theorem dX0_searchLevel_6 : decode cX0_searchLevel 6 = .ok (.if_icmp .ge 78, 3) := by decide +kernel
theorem dX0_searchLevel_9 : decode cX0_searchLevel 9 = .ok (.iload_n 2, 1) := by decide +kernel
theorem dX0_searchLevel_10 : decode cX0_searchLevel 10 = .ok (.bipush 64, 2) := by decide +kernel
theorem dX0_searchLevel_12 : decode cX0_searchLevel 12 = .ok (.imul, 1) := by decide +kernel
theorem dX0_searchLevel_13 : decode cX0_searchLevel 13 = .ok (.aload_n 0, 1) := by decide +kernel
theorem dX0_searchLevel_14 : decode cX0_searchLevel 14 = .ok (.getfield 49, 3) := by decide +kernel
theorem dX0_searchLevel_17 : decode cX0_searchLevel 17 = .ok (.if_icmp .ge 67, 3) := by decide +kernel
theorem dX0_searchLevel_20 : decode cX0_searchLevel 20 = .ok (.aload_n 0, 1) := by decide +kernel
theorem dX0_searchLevel_21 : decode cX0_searchLevel 21 = .ok (.getfield 36, 3) := by decide +kernel
theorem dX0_searchLevel_24 : decode cX0_searchLevel 24 = .ok (.iload_n 2, 1) := by decide +kernel
theorem dX0_searchLevel_25 : decode cX0_searchLevel 25 = .ok (.laload, 1) := by decide +kernel
theorem dX0_searchLevel_26 : decode cX0_searchLevel 26 = .ok (.lstore_n 3, 1) := by decide +kernel
theorem dX0_searchLevel_27 : decode cX0_searchLevel 27 = .ok (.iconst 0, 1) := by decide +kernel
theorem dX0_searchLevel_28 : decode cX0_searchLevel 28 = .ok (.istore 5, 2) := by decide +kernel
theorem dX0_searchLevel_30 : decode cX0_searchLevel 30 = .ok (.iload 5, 2) := by decide +kernel
theorem dX0_searchLevel_32 : decode cX0_searchLevel 32 = .ok (.bipush 64, 2) := by decide +kernel
theorem dX0_searchLevel_34 : decode cX0_searchLevel 34 = .ok (.if_icmp .ge 44, 3) := by decide +kernel
theorem dX0_searchLevel_37 : decode cX0_searchLevel 37 = .ok (.lload_n 3, 1) := by decide +kernel
theorem dX0_searchLevel_38 : decode cX0_searchLevel 38 = .ok (.lconst 0, 1) := by decide +kernel
theorem dX0_searchLevel_39 : decode cX0_searchLevel 39 = .ok (.lcmp, 1) := by decide +kernel
theorem dX0_searchLevel_40 : decode cX0_searchLevel 40 = .ok (.ifCond .eq 38, 3) := by decide +kernel
theorem dX0_searchLevel_43 : decode cX0_searchLevel 43 = .ok (.lload_n 3, 1) := by decide +kernel
theorem dX0_searchLevel_44 : decode cX0_searchLevel 44 = .ok (.lconst 1, 1) := by decide +kernel
theorem dX0_searchLevel_45 : decode cX0_searchLevel 45 = .ok (.land, 1) := by decide +kernel
theorem dX0_searchLevel_46 : decode cX0_searchLevel 46 = .ok (.lconst 0, 1) := by decide +kernel
theorem dX0_searchLevel_47 : decode cX0_searchLevel 47 = .ok (.lcmp, 1) := by decide +kernel
theorem dX0_searchLevel_48 : decode cX0_searchLevel 48 = .ok (.ifCond .eq 20, 3) := by decide +kernel
theorem dX0_searchLevel_51 : decode cX0_searchLevel 51 = .ok (.aload_n 0, 1) := by decide +kernel
theorem dX0_searchLevel_52 : decode cX0_searchLevel 52 = .ok (.aload_n 1, 1) := by decide +kernel
theorem dX0_searchLevel_53 : decode cX0_searchLevel 53 = .ok (.iload_n 2, 1) := by decide +kernel
theorem dX0_searchLevel_54 : decode cX0_searchLevel 54 = .ok (.bipush 64, 2) := by decide +kernel
theorem dX0_searchLevel_56 : decode cX0_searchLevel 56 = .ok (.imul, 1) := by decide +kernel
theorem dX0_searchLevel_57 : decode cX0_searchLevel 57 = .ok (.iload 5, 2) := by decide +kernel
theorem dX0_searchLevel_59 : decode cX0_searchLevel 59 = .ok (.iadd, 1) := by decide +kernel
theorem dX0_searchLevel_60 : decode cX0_searchLevel 60 = .ok (.invokevirtual 193, 3) := by decide +kernel
theorem dX0_searchLevel_63 : decode cX0_searchLevel 63 = .ok (.ifCond .eq 5, 3) := by decide +kernel
theorem dX0_searchLevel_66 : decode cX0_searchLevel 66 = .ok (.iconst 1, 1) := by decide +kernel
theorem dX0_searchLevel_67 : decode cX0_searchLevel 67 = .ok (.ireturn, 1) := by decide +kernel
theorem dX0_searchLevel_68 : decode cX0_searchLevel 68 = .ok (.lload_n 3, 1) := by decide +kernel
theorem dX0_searchLevel_69 : decode cX0_searchLevel 69 = .ok (.iconst 1, 1) := by decide +kernel
theorem dX0_searchLevel_70 : decode cX0_searchLevel 70 = .ok (.lushr, 1) := by decide +kernel
theorem dX0_searchLevel_71 : decode cX0_searchLevel 71 = .ok (.lstore_n 3, 1) := by decide +kernel
theorem dX0_searchLevel_72 : decode cX0_searchLevel 72 = .ok (.iinc 5 1, 3) := by decide +kernel
theorem dX0_searchLevel_75 : decode cX0_searchLevel 75 = .ok (.goto (-45), 3) := by decide +kernel
theorem dX0_searchLevel_78 : decode cX0_searchLevel 78 = .ok (.iinc 2 1, 3) := by decide +kernel
theorem dX0_searchLevel_81 : decode cX0_searchLevel 81 = .ok (.goto (-79), 3) := by decide +kernel
theorem dX0_searchLevel_84 : decode cX0_searchLevel 84 = .ok (.iconst 0, 1) := by decide +kernel
theorem dX0_searchLevel_85 : decode cX0_searchLevel 85 = .ok (.ireturn, 1) := by decide +kernel
theorem dX0_visit_0 : decode cX0_visit 0 = .ok (.aload_n 1, 1) := by decide +kernel
theorem dX0_visit_1 : decode cX0_visit 1 = .ok (.getfield 73, 3) := by decide +kernel
theorem dX0_visit_4 : decode cX0_visit 4 = .ok (.iconst 0, 1) := by decide +kernel
theorem dX0_visit_5 : decode cX0_visit 5 = .ok (.iaload, 1) := by decide +kernel
theorem dX0_visit_6 : decode cX0_visit 6 = .ok (.istore_n 3, 1) := by decide +kernel
theorem dX0_visit_7 : decode cX0_visit 7 = .ok (.iload_n 3, 1) := by decide +kernel
theorem dX0_visit_8 : decode cX0_visit 8 = .ok (.iconst 1, 1) := by decide +kernel
theorem dX0_visit_9 : decode cX0_visit 9 = .ok (.if_icmp .lt 11, 3) := by decide +kernel
theorem dX0_visit_12 : decode cX0_visit 12 = .ok (.aload_n 0, 1) := by decide +kernel
theorem dX0_visit_13 : decode cX0_visit 13 = .ok (.getfield 46, 3) := by decide +kernel
theorem dX0_visit_16 : decode cX0_visit 16 = .ok (.iconst 1, 1) := by decide +kernel
theorem dX0_visit_17 : decode cX0_visit 17 = .ok (.if_icmp .ge 5, 3) := by decide +kernel
theorem dX0_visit_20 : decode cX0_visit 20 = .ok (.iconst 0, 1) := by decide +kernel
theorem dX0_visit_21 : decode cX0_visit 21 = .ok (.ireturn, 1) := by decide +kernel
theorem dX0_visit_22 : decode cX0_visit 22 = .ok (.iconst 0, 1) := by decide +kernel
theorem dX0_visit_23 : decode cX0_visit 23 = .ok (.istore 4, 2) := by decide +kernel
theorem dX0_visit_25 : decode cX0_visit 25 = .ok (.iload 4, 2) := by decide +kernel
theorem dX0_visit_27 : decode cX0_visit 27 = .ok (.aload_n 1, 1) := by decide +kernel
theorem dX0_visit_28 : decode cX0_visit 28 = .ok (.getfield 73, 3) := by decide +kernel
theorem dX0_visit_31 : decode cX0_visit 31 = .ok (.iconst 2, 1) := by decide +kernel
theorem dX0_visit_32 : decode cX0_visit 32 = .ok (.iaload, 1) := by decide +kernel
theorem dX0_visit_33 : decode cX0_visit 33 = .ok (.if_icmp .ge 53, 3) := by decide +kernel
theorem dX0_visit_36 : decode cX0_visit 36 = .ok (.aload_n 0, 1) := by decide +kernel
theorem dX0_visit_37 : decode cX0_visit 37 = .ok (.getfield 24, 3) := by decide +kernel
theorem dX0_visit_40 : decode cX0_visit 40 = .ok (.iload 4, 2) := by decide +kernel
theorem dX0_visit_42 : decode cX0_visit 42 = .ok (.aload_n 0, 1) := by decide +kernel
theorem dX0_visit_43 : decode cX0_visit 43 = .ok (.getfield 20, 3) := by decide +kernel
theorem dX0_visit_46 : decode cX0_visit 46 = .ok (.iload 4, 2) := by decide +kernel
theorem dX0_visit_48 : decode cX0_visit 48 = .ok (.iaload, 1) := by decide +kernel
theorem dX0_visit_49 : decode cX0_visit 49 = .ok (.iconst 1, 1) := by decide +kernel
theorem dX0_visit_50 : decode cX0_visit 50 = .ok (.if_icmp .ge 7, 3) := by decide +kernel
theorem dX0_visit_53 : decode cX0_visit 53 = .ok (.iconst 0, 1) := by decide +kernel
theorem dX0_visit_54 : decode cX0_visit 54 = .ok (.goto 25, 3) := by decide +kernel
theorem dX0_visit_57 : decode cX0_visit 57 = .ok (.iload_n 2, 1) := by decide +kernel
theorem dX0_visit_58 : decode cX0_visit 58 = .ok (.aload_n 0, 1) := by decide +kernel
theorem dX0_visit_59 : decode cX0_visit 59 = .ok (.getfield 20, 3) := by decide +kernel
theorem dX0_visit_62 : decode cX0_visit 62 = .ok (.iload 4, 2) := by decide +kernel
theorem dX0_visit_64 : decode cX0_visit 64 = .ok (.iaload, 1) := by decide +kernel
theorem dX0_visit_65 : decode cX0_visit 65 = .ok (.idiv, 1) := by decide +kernel
theorem dX0_visit_66 : decode cX0_visit 66 = .ok (.aload_n 1, 1) := by decide +kernel
theorem dX0_visit_67 : decode cX0_visit 67 = .ok (.getfield 80, 3) := by decide +kernel
theorem dX0_visit_70 : decode cX0_visit 70 = .ok (.getfield 142, 3) := by decide +kernel
theorem dX0_visit_73 : decode cX0_visit 73 = .ok (.iload 4, 2) := by decide +kernel
theorem dX0_visit_75 : decode cX0_visit 75 = .ok (.iaload, 1) := by decide +kernel
theorem dX0_visit_76 : decode cX0_visit 76 = .ok (.iconst 1, 1) := by decide +kernel
theorem dX0_visit_77 : decode cX0_visit 77 = .ok (.iadd, 1) := by decide +kernel
theorem dX0_visit_78 : decode cX0_visit 78 = .ok (.irem, 1) := by decide +kernel
theorem dX0_visit_79 : decode cX0_visit 79 = .ok (.iastore, 1) := by decide +kernel
theorem dX0_visit_80 : decode cX0_visit 80 = .ok (.iinc 4 1, 3) := by decide +kernel
theorem dX0_visit_83 : decode cX0_visit 83 = .ok (.goto (-58), 3) := by decide +kernel
theorem dX0_visit_86 : decode cX0_visit 86 = .ok (.iload_n 2, 1) := by decide +kernel
theorem dX0_visit_87 : decode cX0_visit 87 = .ok (.iload_n 3, 1) := by decide +kernel
theorem dX0_visit_88 : decode cX0_visit 88 = .ok (.irem, 1) := by decide +kernel
theorem dX0_visit_89 : decode cX0_visit 89 = .ok (.istore 4, 2) := by decide +kernel
theorem dX0_visit_91 : decode cX0_visit 91 = .ok (.iload_n 2, 1) := by decide +kernel
theorem dX0_visit_92 : decode cX0_visit 92 = .ok (.aload_n 0, 1) := by decide +kernel
theorem dX0_visit_93 : decode cX0_visit 93 = .ok (.getfield 46, 3) := by decide +kernel
theorem dX0_visit_96 : decode cX0_visit 96 = .ok (.idiv, 1) := by decide +kernel
theorem dX0_visit_97 : decode cX0_visit 97 = .ok (.istore 5, 2) := by decide +kernel
theorem dX0_visit_99 : decode cX0_visit 99 = .ok (.aload_n 0, 1) := by decide +kernel
theorem dX0_visit_100 : decode cX0_visit 100 = .ok (.aload_n 1, 1) := by decide +kernel
theorem dX0_visit_101 : decode cX0_visit 101 = .ok (.invokevirtual 181, 3) := by decide +kernel
theorem dX0_visit_104 : decode cX0_visit 104 = .ok (.istore 6, 2) := by decide +kernel
theorem dX0_visit_106 : decode cX0_visit 106 = .ok (.aload_n 0, 1) := by decide +kernel
theorem dX0_visit_107 : decode cX0_visit 107 = .ok (.dup, 1) := by decide +kernel
theorem dX0_visit_108 : decode cX0_visit 108 = .ok (.getfield 61, 3) := by decide +kernel
theorem dX0_visit_111 : decode cX0_visit 111 = .ok (.iconst 1, 1) := by decide +kernel
theorem dX0_visit_112 : decode cX0_visit 112 = .ok (.iload 4, 2) := by decide +kernel
theorem dX0_visit_114 : decode cX0_visit 114 = .ok (.ishl, 1) := by decide +kernel
theorem dX0_visit_115 : decode cX0_visit 115 = .ok (.ior, 1) := by decide +kernel
theorem dX0_visit_116 : decode cX0_visit 116 = .ok (.putfield 61, 3) := by decide +kernel
theorem dX0_visit_119 : decode cX0_visit 119 = .ok (.aload_n 0, 1) := by decide +kernel
theorem dX0_visit_120 : decode cX0_visit 120 = .ok (.iload 4, 2) := by decide +kernel
theorem dX0_visit_122 : decode cX0_visit 122 = .ok (.iload 6, 2) := by decide +kernel
theorem dX0_visit_124 : decode cX0_visit 124 = .ok (.iload 5, 2) := by decide +kernel
theorem dX0_visit_126 : decode cX0_visit 126 = .ok (.invokevirtual 197, 3) := by decide +kernel
theorem dX0_visit_129 : decode cX0_visit 129 = .ok (.ifCond .eq 5, 3) := by decide +kernel
theorem dX0_visit_132 : decode cX0_visit 132 = .ok (.iconst 1, 1) := by decide +kernel
theorem dX0_visit_133 : decode cX0_visit 133 = .ok (.ireturn, 1) := by decide +kernel
theorem dX0_visit_134 : decode cX0_visit 134 = .ok (.aload_n 0, 1) := by decide +kernel
theorem dX0_visit_135 : decode cX0_visit 135 = .ok (.aload_n 1, 1) := by decide +kernel
theorem dX0_visit_136 : decode cX0_visit 136 = .ok (.iload_n 2, 1) := by decide +kernel
theorem dX0_visit_137 : decode cX0_visit 137 = .ok (.iload 4, 2) := by decide +kernel
theorem dX0_visit_139 : decode cX0_visit 139 = .ok (.iload 5, 2) := by decide +kernel
theorem dX0_visit_141 : decode cX0_visit 141 = .ok (.iload 6, 2) := by decide +kernel
theorem dX0_visit_143 : decode cX0_visit 143 = .ok (.invokevirtual 201, 3) := by decide +kernel
theorem dX0_visit_146 : decode cX0_visit 146 = .ok (.aload_n 0, 1) := by decide +kernel
theorem dX0_visit_147 : decode cX0_visit 147 = .ok (.aload_n 1, 1) := by decide +kernel
theorem dX0_visit_148 : decode cX0_visit 148 = .ok (.iload_n 2, 1) := by decide +kernel
theorem dX0_visit_149 : decode cX0_visit 149 = .ok (.iload 4, 2) := by decide +kernel
theorem dX0_visit_151 : decode cX0_visit 151 = .ok (.iload 5, 2) := by decide +kernel
theorem dX0_visit_153 : decode cX0_visit 153 = .ok (.invokevirtual 205, 3) := by decide +kernel
theorem dX0_visit_156 : decode cX0_visit 156 = .ok (.iconst 0, 1) := by decide +kernel
theorem dX0_visit_157 : decode cX0_visit 157 = .ok (.ireturn, 1) := by decide +kernel
theorem dX0_markGoing_0 : decode cX0_markGoing 0 = .ok (.iload_n 3, 1) := by decide +kernel
theorem dX0_markGoing_1 : decode cX0_markGoing 1 = .ok (.bipush 11, 2) := by decide +kernel
theorem dX0_markGoing_3 : decode cX0_markGoing 3 = .ok (.imul, 1) := by decide +kernel
theorem dX0_markGoing_4 : decode cX0_markGoing 4 = .ok (.iload 5, 2) := by decide +kernel
theorem dX0_markGoing_6 : decode cX0_markGoing 6 = .ok (.invokestatic 104, 3) := by decide +kernel
theorem dX0_markGoing_9 : decode cX0_markGoing 9 = .ok (.iadd, 1) := by decide +kernel
theorem dX0_markGoing_10 : decode cX0_markGoing 10 = .ok (.istore 6, 2) := by decide +kernel
theorem dX0_markGoing_12 : decode cX0_markGoing 12 = .ok (.iload_n 3, 1) := by decide +kernel
theorem dX0_markGoing_13 : decode cX0_markGoing 13 = .ok (.ifCond .lt 16, 3) := by decide +kernel
theorem dX0_markGoing_16 : decode cX0_markGoing 16 = .ok (.iload_n 3, 1) := by decide +kernel
theorem dX0_markGoing_17 : decode cX0_markGoing 17 = .ok (.bipush 8, 2) := by decide +kernel
theorem dX0_markGoing_19 : decode cX0_markGoing 19 = .ok (.if_icmp .ge 10, 3) := by decide +kernel
theorem dX0_markGoing_22 : decode cX0_markGoing 22 = .ok (.iload 6, 2) := by decide +kernel
theorem dX0_markGoing_24 : decode cX0_markGoing 24 = .ok (.bipush 88, 2) := by decide +kernel
theorem dX0_markGoing_26 : decode cX0_markGoing 26 = .ok (.if_icmp .lt 4, 3) := by decide +kernel
theorem dX0_markGoing_29 : decode cX0_markGoing 29 = .ok (.return_, 1) := by decide +kernel
theorem dX0_markGoing_30 : decode cX0_markGoing 30 = .ok (.aload_n 0, 1) := by decide +kernel
theorem dX0_markGoing_31 : decode cX0_markGoing 31 = .ok (.getfield 27, 3) := by decide +kernel
theorem dX0_markGoing_34 : decode cX0_markGoing 34 = .ok (.iload_n 3, 1) := by decide +kernel
theorem dX0_markGoing_35 : decode cX0_markGoing 35 = .ok (.iaload, 1) := by decide +kernel
theorem dX0_markGoing_36 : decode cX0_markGoing 36 = .ok (.iload 5, 2) := by decide +kernel
theorem dX0_markGoing_38 : decode cX0_markGoing 38 = .ok (.iconst (-1), 1) := by decide +kernel
theorem dX0_markGoing_39 : decode cX0_markGoing 39 = .ok (.ixor, 1) := by decide +kernel
theorem dX0_markGoing_40 : decode cX0_markGoing 40 = .ok (.iand, 1) := by decide +kernel
theorem dX0_markGoing_41 : decode cX0_markGoing 41 = .ok (.aload_n 0, 1) := by decide +kernel
theorem dX0_markGoing_42 : decode cX0_markGoing 42 = .ok (.getfield 30, 3) := by decide +kernel
theorem dX0_markGoing_45 : decode cX0_markGoing 45 = .ok (.iload 6, 2) := by decide +kernel
theorem dX0_markGoing_47 : decode cX0_markGoing 47 = .ok (.iaload, 1) := by decide +kernel
theorem dX0_markGoing_48 : decode cX0_markGoing 48 = .ok (.iconst (-1), 1) := by decide +kernel
theorem dX0_markGoing_49 : decode cX0_markGoing 49 = .ok (.ixor, 1) := by decide +kernel
theorem dX0_markGoing_50 : decode cX0_markGoing 50 = .ok (.iand, 1) := by decide +kernel
theorem dX0_markGoing_51 : decode cX0_markGoing 51 = .ok (.istore 7, 2) := by decide +kernel
theorem dX0_markGoing_53 : decode cX0_markGoing 53 = .ok (.iconst 0, 1) := by decide +kernel
theorem dX0_markGoing_54 : decode cX0_markGoing 54 = .ok (.istore 8, 2) := by decide +kernel
theorem dX0_markGoing_56 : decode cX0_markGoing 56 = .ok (.iload 8, 2) := by decide +kernel
theorem dX0_markGoing_58 : decode cX0_markGoing 58 = .ok (.bipush 10, 2) := by decide +kernel
theorem dX0_markGoing_60 : decode cX0_markGoing 60 = .ok (.if_icmp .ge 70, 3) := by decide +kernel
theorem dX0_markGoing_63 : decode cX0_markGoing 63 = .ok (.iload 7, 2) := by decide +kernel
theorem dX0_markGoing_65 : decode cX0_markGoing 65 = .ok (.iload 8, 2) := by decide +kernel
theorem dX0_markGoing_67 : decode cX0_markGoing 67 = .ok (.ishr, 1) := by decide +kernel
theorem dX0_markGoing_68 : decode cX0_markGoing 68 = .ok (.ifCond .eq 62, 3) := by decide +kernel
theorem dX0_markGoing_71 : decode cX0_markGoing 71 = .ok (.iload 7, 2) := by decide +kernel
theorem dX0_markGoing_73 : decode cX0_markGoing 73 = .ok (.iload 8, 2) := by decide +kernel
theorem dX0_markGoing_75 : decode cX0_markGoing 75 = .ok (.ishr, 1) := by decide +kernel
theorem dX0_markGoing_76 : decode cX0_markGoing 76 = .ok (.iconst 1, 1) := by decide +kernel
theorem dX0_markGoing_77 : decode cX0_markGoing 77 = .ok (.iand, 1) := by decide +kernel
theorem dX0_markGoing_78 : decode cX0_markGoing 78 = .ok (.ifCond .eq 46, 3) := by decide +kernel
theorem dX0_markGoing_81 : decode cX0_markGoing 81 = .ok (.aload_n 1, 1) := by decide +kernel
theorem dX0_markGoing_82 : decode cX0_markGoing 82 = .ok (.iload 8, 2) := by decide +kernel
theorem dX0_markGoing_84 : decode cX0_markGoing 84 = .ok (.iload_n 3, 1) := by decide +kernel
theorem dX0_markGoing_85 : decode cX0_markGoing 85 = .ok (.invokevirtual 209, 3) := by decide +kernel
theorem dX0_markGoing_88 : decode cX0_markGoing 88 = .ok (.istore 9, 2) := by decide +kernel
theorem dX0_markGoing_90 : decode cX0_markGoing 90 = .ok (.aload_n 0, 1) := by decide +kernel
theorem dX0_markGoing_91 : decode cX0_markGoing 91 = .ok (.aload_n 1, 1) := by decide +kernel
theorem dX0_markGoing_92 : decode cX0_markGoing 92 = .ok (.iload 9, 2) := by decide +kernel
theorem dX0_markGoing_94 : decode cX0_markGoing 94 = .ok (.iload 5, 2) := by decide +kernel
theorem dX0_markGoing_96 : decode cX0_markGoing 96 = .ok (.invokevirtual 185, 3) := by decide +kernel
theorem dX0_markGoing_99 : decode cX0_markGoing 99 = .ok (.iload 4, 2) := by decide +kernel
theorem dX0_markGoing_101 : decode cX0_markGoing 101 = .ok (.iconst (-1), 1) := by decide +kernel
theorem dX0_markGoing_102 : decode cX0_markGoing 102 = .ok (.ixor, 1) := by decide +kernel
theorem dX0_markGoing_103 : decode cX0_markGoing 103 = .ok (.iand, 1) := by decide +kernel
theorem dX0_markGoing_104 : decode cX0_markGoing 104 = .ok (.istore 10, 2) := by decide +kernel
theorem dX0_markGoing_106 : decode cX0_markGoing 106 = .ok (.aload_n 0, 1) := by decide +kernel
theorem dX0_markGoing_107 : decode cX0_markGoing 107 = .ok (.iload_n 2, 1) := by decide +kernel
theorem dX0_markGoing_108 : decode cX0_markGoing 108 = .ok (.iload 9, 2) := by decide +kernel
theorem dX0_markGoing_110 : decode cX0_markGoing 110 = .ok (.iadd, 1) := by decide +kernel
theorem dX0_markGoing_111 : decode cX0_markGoing 111 = .ok (.iload_n 3, 1) := by decide +kernel
theorem dX0_markGoing_112 : decode cX0_markGoing 112 = .ok (.isub, 1) := by decide +kernel
theorem dX0_markGoing_113 : decode cX0_markGoing 113 = .ok (.iload 10, 2) := by decide +kernel
theorem dX0_markGoing_115 : decode cX0_markGoing 115 = .ok (.aload_n 0, 1) := by decide +kernel
theorem dX0_markGoing_116 : decode cX0_markGoing 116 = .ok (.getfield 46, 3) := by decide +kernel
theorem dX0_markGoing_119 : decode cX0_markGoing 119 = .ok (.imul, 1) := by decide +kernel
theorem dX0_markGoing_120 : decode cX0_markGoing 120 = .ok (.iadd, 1) := by decide +kernel
theorem dX0_markGoing_121 : decode cX0_markGoing 121 = .ok (.invokevirtual 189, 3) := by decide +kernel
theorem dX0_markGoing_124 : decode cX0_markGoing 124 = .ok (.iinc 8 1, 3) := by decide +kernel
theorem dX0_markGoing_127 : decode cX0_markGoing 127 = .ok (.goto (-71), 3) := by decide +kernel
theorem dX0_markGoing_130 : decode cX0_markGoing 130 = .ok (.return_, 1) := by decide +kernel
theorem dX0_markOpening_0 : decode cX0_markOpening 0 = .ok (.iconst 0, 1) := by decide +kernel
theorem dX0_markOpening_1 : decode cX0_markOpening 1 = .ok (.istore 5, 2) := by decide +kernel
theorem dX0_markOpening_3 : decode cX0_markOpening 3 = .ok (.iload 5, 2) := by decide +kernel
theorem dX0_markOpening_5 : decode cX0_markOpening 5 = .ok (.aload_n 1, 1) := by decide +kernel
theorem dX0_markOpening_6 : decode cX0_markOpening 6 = .ok (.getfield 73, 3) := by decide +kernel
theorem dX0_markOpening_9 : decode cX0_markOpening 9 = .ok (.iconst 2, 1) := by decide +kernel
theorem dX0_markOpening_10 : decode cX0_markOpening 10 = .ok (.iaload, 1) := by decide +kernel
theorem dX0_markOpening_11 : decode cX0_markOpening 11 = .ok (.if_icmp .ge 116, 3) := by decide +kernel
theorem dX0_markOpening_14 : decode cX0_markOpening 14 = .ok (.aload_n 0, 1) := by decide +kernel
theorem dX0_markOpening_15 : decode cX0_markOpening 15 = .ok (.getfield 20, 3) := by decide +kernel
theorem dX0_markOpening_18 : decode cX0_markOpening 18 = .ok (.iload 5, 2) := by decide +kernel
theorem dX0_markOpening_20 : decode cX0_markOpening 20 = .ok (.iaload, 1) := by decide +kernel
theorem dX0_markOpening_21 : decode cX0_markOpening 21 = .ok (.ifCond .le 100, 3) := by decide +kernel
theorem dX0_markOpening_24 : decode cX0_markOpening 24 = .ok (.aload_n 0, 1) := by decide +kernel
theorem dX0_markOpening_25 : decode cX0_markOpening 25 = .ok (.getfield 24, 3) := by decide +kernel
theorem dX0_markOpening_28 : decode cX0_markOpening 28 = .ok (.iload 5, 2) := by decide +kernel
theorem dX0_markOpening_30 : decode cX0_markOpening 30 = .ok (.iaload, 1) := by decide +kernel
theorem dX0_markOpening_31 : decode cX0_markOpening 31 = .ok (.ifCond .le 90, 3) := by decide +kernel
theorem dX0_markOpening_34 : decode cX0_markOpening 34 = .ok (.aload_n 1, 1) := by decide +kernel
theorem dX0_markOpening_35 : decode cX0_markOpening 35 = .ok (.aload_n 1, 1) := by decide +kernel
theorem dX0_markOpening_36 : decode cX0_markOpening 36 = .ok (.getfield 80, 3) := by decide +kernel
theorem dX0_markOpening_39 : decode cX0_markOpening 39 = .ok (.iload 5, 2) := by decide +kernel
theorem dX0_markOpening_41 : decode cX0_markOpening 41 = .ok (.aload_n 0, 1) := by decide +kernel
theorem dX0_markOpening_42 : decode cX0_markOpening 42 = .ok (.getfield 24, 3) := by decide +kernel
theorem dX0_markOpening_45 : decode cX0_markOpening 45 = .ok (.iload 5, 2) := by decide +kernel
theorem dX0_markOpening_47 : decode cX0_markOpening 47 = .ok (.iaload, 1) := by decide +kernel
theorem dX0_markOpening_48 : decode cX0_markOpening 48 = .ok (.iconst 1, 1) := by decide +kernel
theorem dX0_markOpening_49 : decode cX0_markOpening 49 = .ok (.isub, 1) := by decide +kernel
theorem dX0_markOpening_50 : decode cX0_markOpening 50 = .ok (.invokevirtual 212, 3) := by decide +kernel
theorem dX0_markOpening_53 : decode cX0_markOpening 53 = .ok (.iload_n 3, 1) := by decide +kernel
theorem dX0_markOpening_54 : decode cX0_markOpening 54 = .ok (.invokevirtual 159, 3) := by decide +kernel
theorem dX0_markOpening_57 : decode cX0_markOpening 57 = .ok (.ifCond .eq 64, 3) := by decide +kernel
theorem dX0_markOpening_60 : decode cX0_markOpening 60 = .ok (.aload_n 0, 1) := by decide +kernel
theorem dX0_markOpening_61 : decode cX0_markOpening 61 = .ok (.getfield 24, 3) := by decide +kernel
theorem dX0_markOpening_64 : decode cX0_markOpening 64 = .ok (.iload 5, 2) := by decide +kernel
theorem dX0_markOpening_66 : decode cX0_markOpening 66 = .ok (.dup2, 1) := by decide +kernel
theorem dX0_markOpening_67 : decode cX0_markOpening 67 = .ok (.iaload, 1) := by decide +kernel
theorem dX0_markOpening_68 : decode cX0_markOpening 68 = .ok (.iconst 1, 1) := by decide +kernel
theorem dX0_markOpening_69 : decode cX0_markOpening 69 = .ok (.isub, 1) := by decide +kernel
theorem dX0_markOpening_70 : decode cX0_markOpening 70 = .ok (.iastore, 1) := by decide +kernel
theorem dX0_markOpening_71 : decode cX0_markOpening 71 = .ok (.aload_n 0, 1) := by decide +kernel
theorem dX0_markOpening_72 : decode cX0_markOpening 72 = .ok (.aload_n 1, 1) := by decide +kernel
theorem dX0_markOpening_73 : decode cX0_markOpening 73 = .ok (.iload_n 3, 1) := by decide +kernel
theorem dX0_markOpening_74 : decode cX0_markOpening 74 = .ok (.aload_n 0, 1) := by decide +kernel
theorem dX0_markOpening_75 : decode cX0_markOpening 75 = .ok (.aload_n 1, 1) := by decide +kernel
theorem dX0_markOpening_76 : decode cX0_markOpening 76 = .ok (.invokevirtual 181, 3) := by decide +kernel
theorem dX0_markOpening_79 : decode cX0_markOpening 79 = .ok (.invokevirtual 185, 3) := by decide +kernel
theorem dX0_markOpening_82 : decode cX0_markOpening 82 = .ok (.iload 4, 2) := by decide +kernel
theorem dX0_markOpening_84 : decode cX0_markOpening 84 = .ok (.iconst (-1), 1) := by decide +kernel
theorem dX0_markOpening_85 : decode cX0_markOpening 85 = .ok (.ixor, 1) := by decide +kernel
theorem dX0_markOpening_86 : decode cX0_markOpening 86 = .ok (.iand, 1) := by decide +kernel
theorem dX0_markOpening_87 : decode cX0_markOpening 87 = .ok (.istore 6, 2) := by decide +kernel
theorem dX0_markOpening_89 : decode cX0_markOpening 89 = .ok (.aload_n 0, 1) := by decide +kernel
theorem dX0_markOpening_90 : decode cX0_markOpening 90 = .ok (.getfield 24, 3) := by decide +kernel
theorem dX0_markOpening_93 : decode cX0_markOpening 93 = .ok (.iload 5, 2) := by decide +kernel
theorem dX0_markOpening_95 : decode cX0_markOpening 95 = .ok (.dup2, 1) := by decide +kernel
theorem dX0_markOpening_96 : decode cX0_markOpening 96 = .ok (.iaload, 1) := by decide +kernel
theorem dX0_markOpening_97 : decode cX0_markOpening 97 = .ok (.iconst 1, 1) := by decide +kernel
theorem dX0_markOpening_98 : decode cX0_markOpening 98 = .ok (.iadd, 1) := by decide +kernel
theorem dX0_markOpening_99 : decode cX0_markOpening 99 = .ok (.iastore, 1) := by decide +kernel
theorem dX0_markOpening_100 : decode cX0_markOpening 100 = .ok (.aload_n 0, 1) := by decide +kernel
theorem dX0_markOpening_101 : decode cX0_markOpening 101 = .ok (.iload_n 2, 1) := by decide +kernel
theorem dX0_markOpening_102 : decode cX0_markOpening 102 = .ok (.aload_n 0, 1) := by decide +kernel
theorem dX0_markOpening_103 : decode cX0_markOpening 103 = .ok (.getfield 20, 3) := by decide +kernel
theorem dX0_markOpening_106 : decode cX0_markOpening 106 = .ok (.iload 5, 2) := by decide +kernel
theorem dX0_markOpening_108 : decode cX0_markOpening 108 = .ok (.iaload, 1) := by decide +kernel
theorem dX0_markOpening_109 : decode cX0_markOpening 109 = .ok (.isub, 1) := by decide +kernel
theorem dX0_markOpening_110 : decode cX0_markOpening 110 = .ok (.iload 6, 2) := by decide +kernel
theorem dX0_markOpening_112 : decode cX0_markOpening 112 = .ok (.aload_n 0, 1) := by decide +kernel
theorem dX0_markOpening_113 : decode cX0_markOpening 113 = .ok (.getfield 46, 3) := by decide +kernel
theorem dX0_markOpening_116 : decode cX0_markOpening 116 = .ok (.imul, 1) := by decide +kernel
theorem dX0_markOpening_117 : decode cX0_markOpening 117 = .ok (.iadd, 1) := by decide +kernel
theorem dX0_markOpening_118 : decode cX0_markOpening 118 = .ok (.invokevirtual 189, 3) := by decide +kernel
theorem dX0_markOpening_121 : decode cX0_markOpening 121 = .ok (.iinc 5 1, 3) := by decide +kernel
theorem dX0_markOpening_124 : decode cX0_markOpening 124 = .ok (.goto (-121), 3) := by decide +kernel
theorem dX0_markOpening_127 : decode cX0_markOpening 127 = .ok (.return_, 1) := by decide +kernel
theorem dX1_add_0 : decode cX1_add 0 = .ok (.aload_n 0, 1) := by decide +kernel
theorem dX1_add_1 : decode cX1_add 1 = .ok (.getfield 25, 3) := by decide +kernel
theorem dX1_add_4 : decode cX1_add 4 = .ok (.ifCond .lt 12, 3) := by decide +kernel
theorem dX1_add_7 : decode cX1_add 7 = .ok (.aload_n 0, 1) := by decide +kernel
theorem dX1_add_8 : decode cX1_add 8 = .ok (.getfield 25, 3) := by decide +kernel
theorem dX1_add_11 : decode cX1_add 11 = .ok (.bipush 20, 2) := by decide +kernel
theorem dX1_add_13 : decode cX1_add 13 = .ok (.if_icmp .lt 5, 3) := by decide +kernel
theorem dX1_add_16 : decode cX1_add 16 = .ok (.iconst 0, 1) := by decide +kernel
theorem dX1_add_17 : decode cX1_add 17 = .ok (.ireturn, 1) := by decide +kernel
theorem dX1_add_18 : decode cX1_add 18 = .ok (.aload_n 0, 1) := by decide +kernel
theorem dX1_add_19 : decode cX1_add 19 = .ok (.getfield 11, 3) := by decide +kernel
theorem dX1_add_22 : decode cX1_add 22 = .ok (.aload_n 0, 1) := by decide +kernel
theorem dX1_add_23 : decode cX1_add 23 = .ok (.getfield 25, 3) := by decide +kernel
theorem dX1_add_26 : decode cX1_add 26 = .ok (.iload_n 1, 1) := by decide +kernel
theorem dX1_add_27 : decode cX1_add 27 = .ok (.iastore, 1) := by decide +kernel
theorem dX1_add_28 : decode cX1_add 28 = .ok (.aload_n 0, 1) := by decide +kernel
theorem dX1_add_29 : decode cX1_add 29 = .ok (.getfield 15, 3) := by decide +kernel
theorem dX1_add_32 : decode cX1_add 32 = .ok (.aload_n 0, 1) := by decide +kernel
theorem dX1_add_33 : decode cX1_add 33 = .ok (.getfield 25, 3) := by decide +kernel
theorem dX1_add_36 : decode cX1_add 36 = .ok (.iload_n 2, 1) := by decide +kernel
theorem dX1_add_37 : decode cX1_add 37 = .ok (.bastore, 1) := by decide +kernel
theorem dX1_add_38 : decode cX1_add 38 = .ok (.aload_n 0, 1) := by decide +kernel
theorem dX1_add_39 : decode cX1_add 39 = .ok (.dup, 1) := by decide +kernel
theorem dX1_add_40 : decode cX1_add 40 = .ok (.getfield 25, 3) := by decide +kernel
theorem dX1_add_43 : decode cX1_add 43 = .ok (.iconst 1, 1) := by decide +kernel
theorem dX1_add_44 : decode cX1_add 44 = .ok (.iadd, 1) := by decide +kernel
theorem dX1_add_45 : decode cX1_add 45 = .ok (.putfield 25, 3) := by decide +kernel
theorem dX1_add_48 : decode cX1_add 48 = .ok (.iconst 1, 1) := by decide +kernel
theorem dX1_add_49 : decode cX1_add 49 = .ok (.ireturn, 1) := by decide +kernel
theorem dX1_isRow_0 : decode cX1_isRow 0 = .ok (.aload_n 1, 1) := by decide +kernel
theorem dX1_isRow_1 : decode cX1_isRow 1 = .ok (.getfield 46, 3) := by decide +kernel
theorem dX1_isRow_4 : decode cX1_isRow 4 = .ok (.iconst 1, 1) := by decide +kernel
theorem dX1_isRow_5 : decode cX1_isRow 5 = .ok (.iaload, 1) := by decide +kernel
theorem dX1_isRow_6 : decode cX1_isRow 6 = .ok (.istore 4, 2) := by decide +kernel
theorem dX1_isRow_8 : decode cX1_isRow 8 = .ok (.iload_n 2, 1) := by decide +kernel
theorem dX1_isRow_9 : decode cX1_isRow 9 = .ok (.istore 5, 2) := by decide +kernel
theorem dX1_isRow_11 : decode cX1_isRow 11 = .ok (.iconst 0, 1) := by decide +kernel
theorem dX1_isRow_12 : decode cX1_isRow 12 = .ok (.istore 6, 2) := by decide +kernel
theorem dX1_isRow_14 : decode cX1_isRow 14 = .ok (.iload_n 3, 1) := by decide +kernel
theorem dX1_isRow_15 : decode cX1_isRow 15 = .ok (.iconst 1, 1) := by decide +kernel
theorem dX1_isRow_16 : decode cX1_isRow 16 = .ok (.isub, 1) := by decide +kernel
theorem dX1_isRow_17 : decode cX1_isRow 17 = .ok (.istore 7, 2) := by decide +kernel
theorem dX1_isRow_19 : decode cX1_isRow 19 = .ok (.iload 7, 2) := by decide +kernel
theorem dX1_isRow_21 : decode cX1_isRow 21 = .ok (.ifCond .lt 76, 3) := by decide +kernel
theorem dX1_isRow_24 : decode cX1_isRow 24 = .ok (.iload 7, 2) := by decide +kernel
theorem dX1_isRow_26 : decode cX1_isRow 26 = .ok (.iconst 3, 1) := by decide +kernel
theorem dX1_isRow_27 : decode cX1_isRow 27 = .ok (.if_icmp .ge 70, 3) := by decide +kernel
theorem dX1_isRow_30 : decode cX1_isRow 30 = .ok (.iload 4, 2) := by decide +kernel
theorem dX1_isRow_32 : decode cX1_isRow 32 = .ok (.ifCond .le 65, 3) := by decide +kernel
theorem dX1_isRow_35 : decode cX1_isRow 35 = .ok (.iload 5, 2) := by decide +kernel
theorem dX1_isRow_37 : decode cX1_isRow 37 = .ok (.iload 4, 2) := by decide +kernel
theorem dX1_isRow_39 : decode cX1_isRow 39 = .ok (.irem, 1) := by decide +kernel
theorem dX1_isRow_40 : decode cX1_isRow 40 = .ok (.istore 8, 2) := by decide +kernel
theorem dX1_isRow_42 : decode cX1_isRow 42 = .ok (.aload_n 1, 1) := by decide +kernel
theorem dX1_isRow_43 : decode cX1_isRow 43 = .ok (.getfield 51, 3) := by decide +kernel
theorem dX1_isRow_46 : decode cX1_isRow 46 = .ok (.iload 8, 2) := by decide +kernel
theorem dX1_isRow_48 : decode cX1_isRow 48 = .ok (.ishr, 1) := by decide +kernel
theorem dX1_isRow_49 : decode cX1_isRow 49 = .ok (.iconst 1, 1) := by decide +kernel
theorem dX1_isRow_50 : decode cX1_isRow 50 = .ok (.iand, 1) := by decide +kernel
theorem dX1_isRow_51 : decode cX1_isRow 51 = .ok (.ifCond .eq 13, 3) := by decide +kernel
theorem dX1_isRow_54 : decode cX1_isRow 54 = .ok (.iload 6, 2) := by decide +kernel
theorem dX1_isRow_56 : decode cX1_isRow 56 = .ok (.iload 8, 2) := by decide +kernel
theorem dX1_isRow_58 : decode cX1_isRow 58 = .ok (.ishr, 1) := by decide +kernel
theorem dX1_isRow_59 : decode cX1_isRow 59 = .ok (.iconst 1, 1) := by decide +kernel
theorem dX1_isRow_60 : decode cX1_isRow 60 = .ok (.iand, 1) := by decide +kernel
theorem dX1_isRow_61 : decode cX1_isRow 61 = .ok (.ifCond .eq 5, 3) := by decide +kernel
theorem dX1_isRow_64 : decode cX1_isRow 64 = .ok (.iconst 0, 1) := by decide +kernel
theorem dX1_isRow_65 : decode cX1_isRow 65 = .ok (.ireturn, 1) := by decide +kernel
theorem dX1_isRow_66 : decode cX1_isRow 66 = .ok (.iload 6, 2) := by decide +kernel
theorem dX1_isRow_68 : decode cX1_isRow 68 = .ok (.iconst 1, 1) := by decide +kernel
theorem dX1_isRow_69 : decode cX1_isRow 69 = .ok (.iload 8, 2) := by decide +kernel
theorem dX1_isRow_71 : decode cX1_isRow 71 = .ok (.ishl, 1) := by decide +kernel
theorem dX1_isRow_72 : decode cX1_isRow 72 = .ok (.ior, 1) := by decide +kernel
theorem dX1_isRow_73 : decode cX1_isRow 73 = .ok (.istore 6, 2) := by decide +kernel
theorem dX1_isRow_75 : decode cX1_isRow 75 = .ok (.aload_n 0, 1) := by decide +kernel
theorem dX1_isRow_76 : decode cX1_isRow 76 = .ok (.getfield 22, 3) := by decide +kernel
theorem dX1_isRow_79 : decode cX1_isRow 79 = .ok (.iload 7, 2) := by decide +kernel
theorem dX1_isRow_81 : decode cX1_isRow 81 = .ok (.iload 8, 2) := by decide +kernel
theorem dX1_isRow_83 : decode cX1_isRow 83 = .ok (.iastore, 1) := by decide +kernel
theorem dX1_isRow_84 : decode cX1_isRow 84 = .ok (.iload 5, 2) := by decide +kernel
theorem dX1_isRow_86 : decode cX1_isRow 86 = .ok (.iload 4, 2) := by decide +kernel
theorem dX1_isRow_88 : decode cX1_isRow 88 = .ok (.idiv, 1) := by decide +kernel
theorem dX1_isRow_89 : decode cX1_isRow 89 = .ok (.istore 5, 2) := by decide +kernel
theorem dX1_isRow_91 : decode cX1_isRow 91 = .ok (.iinc 7 (-1), 3) := by decide +kernel
theorem dX1_isRow_94 : decode cX1_isRow 94 = .ok (.goto (-75), 3) := by decide +kernel
theorem dX1_isRow_97 : decode cX1_isRow 97 = .ok (.iconst 1, 1) := by decide +kernel
theorem dX1_isRow_98 : decode cX1_isRow 98 = .ok (.ireturn, 1) := by decide +kernel
theorem dX1_leftOf_0 : decode cX1_leftOf 0 = .ok (.iload_n 1, 1) := by decide +kernel
theorem dX1_leftOf_1 : decode cX1_leftOf 1 = .ok (.istore_n 2, 1) := by decide +kernel
theorem dX1_leftOf_2 : decode cX1_leftOf 2 = .ok (.iconst 0, 1) := by decide +kernel
theorem dX1_leftOf_3 : decode cX1_leftOf 3 = .ok (.istore_n 3, 1) := by decide +kernel
theorem dX1_leftOf_4 : decode cX1_leftOf 4 = .ok (.iload_n 3, 1) := by decide +kernel
theorem dX1_leftOf_5 : decode cX1_leftOf 5 = .ok (.aload_n 0, 1) := by decide +kernel
theorem dX1_leftOf_6 : decode cX1_leftOf 6 = .ok (.getfield 25, 3) := by decide +kernel
theorem dX1_leftOf_9 : decode cX1_leftOf 9 = .ok (.if_icmp .ge 57, 3) := by decide +kernel
theorem dX1_leftOf_12 : decode cX1_leftOf 12 = .ok (.iload_n 3, 1) := by decide +kernel
theorem dX1_leftOf_13 : decode cX1_leftOf 13 = .ok (.bipush 20, 2) := by decide +kernel
theorem dX1_leftOf_15 : decode cX1_leftOf 15 = .ok (.if_icmp .ge 51, 3) := by decide +kernel
theorem dX1_leftOf_18 : decode cX1_leftOf 18 = .ok (.aload_n 0, 1) := by decide +kernel
theorem dX1_leftOf_19 : decode cX1_leftOf 19 = .ok (.iload_n 2, 1) := by decide +kernel
theorem dX1_leftOf_20 : decode cX1_leftOf 20 = .ok (.invokevirtual 58, 3) := by decide +kernel
theorem dX1_leftOf_23 : decode cX1_leftOf 23 = .ok (.aload_n 0, 1) := by decide +kernel
theorem dX1_leftOf_24 : decode cX1_leftOf 24 = .ok (.getfield 11, 3) := by decide +kernel
theorem dX1_leftOf_27 : decode cX1_leftOf 27 = .ok (.iload_n 3, 1) := by decide +kernel
theorem dX1_leftOf_28 : decode cX1_leftOf 28 = .ok (.iaload, 1) := by decide +kernel
theorem dX1_leftOf_29 : decode cX1_leftOf 29 = .ok (.if_icmp .ne 7, 3) := by decide +kernel
theorem dX1_leftOf_32 : decode cX1_leftOf 32 = .ok (.iconst 1, 1) := by decide +kernel
theorem dX1_leftOf_33 : decode cX1_leftOf 33 = .ok (.goto 4, 3) := by decide +kernel
theorem dX1_leftOf_36 : decode cX1_leftOf 36 = .ok (.iconst 0, 1) := by decide +kernel
theorem dX1_leftOf_37 : decode cX1_leftOf 37 = .ok (.aload_n 0, 1) := by decide +kernel
theorem dX1_leftOf_38 : decode cX1_leftOf 38 = .ok (.getfield 15, 3) := by decide +kernel
theorem dX1_leftOf_41 : decode cX1_leftOf 41 = .ok (.iload_n 3, 1) := by decide +kernel
theorem dX1_leftOf_42 : decode cX1_leftOf 42 = .ok (.baload, 1) := by decide +kernel
theorem dX1_leftOf_43 : decode cX1_leftOf 43 = .ok (.if_icmp .eq 5, 3) := by decide +kernel
theorem dX1_leftOf_46 : decode cX1_leftOf 46 = .ok (.iconst (-1), 1) := by decide +kernel
theorem dX1_leftOf_47 : decode cX1_leftOf 47 = .ok (.ireturn, 1) := by decide +kernel
theorem dX1_leftOf_48 : decode cX1_leftOf 48 = .ok (.aload_n 0, 1) := by decide +kernel
theorem dX1_leftOf_49 : decode cX1_leftOf 49 = .ok (.getfield 15, 3) := by decide +kernel
theorem dX1_leftOf_52 : decode cX1_leftOf 52 = .ok (.iload_n 3, 1) := by decide +kernel
theorem dX1_leftOf_53 : decode cX1_leftOf 53 = .ok (.baload, 1) := by decide +kernel
theorem dX1_leftOf_54 : decode cX1_leftOf 54 = .ok (.ifCond .eq 6, 3) := by decide +kernel
theorem dX1_leftOf_57 : decode cX1_leftOf 57 = .ok (.iinc 2 (-1), 3) := by decide +kernel
theorem dX1_leftOf_60 : decode cX1_leftOf 60 = .ok (.iinc 3 1, 3) := by decide +kernel
theorem dX1_leftOf_63 : decode cX1_leftOf 63 = .ok (.goto (-59), 3) := by decide +kernel
theorem dX1_leftOf_66 : decode cX1_leftOf 66 = .ok (.iload_n 2, 1) := by decide +kernel
theorem dX1_leftOf_67 : decode cX1_leftOf 67 = .ok (.ireturn, 1) := by decide +kernel
theorem dX1_topOf_0 : decode cX1_topOf 0 = .ok (.iload_n 1, 1) := by decide +kernel
theorem dX1_topOf_1 : decode cX1_topOf 1 = .ok (.ifCond .le 19, 3) := by decide +kernel
theorem dX1_topOf_4 : decode cX1_topOf 4 = .ok (.iload_n 1, 1) := by decide +kernel
theorem dX1_topOf_5 : decode cX1_topOf 5 = .ok (.iconst 3, 1) := by decide +kernel
theorem dX1_topOf_6 : decode cX1_topOf 6 = .ok (.if_icmp .gt 14, 3) := by decide +kernel
theorem dX1_topOf_9 : decode cX1_topOf 9 = .ok (.aload_n 0, 1) := by decide +kernel
theorem dX1_topOf_10 : decode cX1_topOf 10 = .ok (.getfield 22, 3) := by decide +kernel
theorem dX1_topOf_13 : decode cX1_topOf 13 = .ok (.iload_n 1, 1) := by decide +kernel
theorem dX1_topOf_14 : decode cX1_topOf 14 = .ok (.iconst 1, 1) := by decide +kernel
theorem dX1_topOf_15 : decode cX1_topOf 15 = .ok (.isub, 1) := by decide +kernel
theorem dX1_topOf_16 : decode cX1_topOf 16 = .ok (.iaload, 1) := by decide +kernel
theorem dX1_topOf_17 : decode cX1_topOf 17 = .ok (.goto 4, 3) := by decide +kernel
theorem dX1_topOf_20 : decode cX1_topOf 20 = .ok (.iconst (-1), 1) := by decide +kernel
theorem dX1_topOf_21 : decode cX1_topOf 21 = .ok (.ireturn, 1) := by decide +kernel
