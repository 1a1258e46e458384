theorem dX0_markStart_0 : decode cX0_markStart 0 = .ok (.iload_n 2, 1) := by decide +kernel
theorem dX0_markStart_1 : decode cX0_markStart 1 = .ok (.istore 4, 2) := by decide +kernel
theorem dX0_markStart_3 : decode cX0_markStart 3 = .ok (.iconst 0, 1) := by decide +kernel
theorem dX0_markStart_4 : decode cX0_markStart 4 = .ok (.istore 5, 2) := by decide +kernel
theorem dX0_markStart_6 : decode cX0_markStart 6 = .ok (.iload 5, 2) := by decide +kernel
theorem dX0_markStart_8 : decode cX0_markStart 8 = .ok (.aload_n 1, 1) := by decide +kernel
theorem dX0_markStart_9 : decode cX0_markStart 9 = .ok (.getfield 73, 3) := by decide +kernel
theorem dX0_markStart_12 : decode cX0_markStart 12 = .ok (.iconst 2, 1) := by decide +kernel
theorem dX0_markStart_13 : decode cX0_markStart 13 = .ok (.iaload, 1) := by decide +kernel
theorem dX0_markStart_14 : decode cX0_markStart 14 = .ok (.if_icmp .ge 63, 3) := by decide +kernel
theorem dX0_markStart_17 : decode cX0_markStart 17 = .ok (.aload_n 0, 1) := by decide +kernel
theorem dX0_markStart_18 : decode cX0_markStart 18 = .ok (.getfield 24, 3) := by decide +kernel
theorem dX0_markStart_21 : decode cX0_markStart 21 = .ok (.iload 5, 2) := by decide +kernel
theorem dX0_markStart_23 : decode cX0_markStart 23 = .ok (.iconst 0, 1) := by decide +kernel
theorem dX0_markStart_24 : decode cX0_markStart 24 = .ok (.iastore, 1) := by decide +kernel
theorem dX0_markStart_25 : decode cX0_markStart 25 = .ok (.iload_n 3, 1) := by decide +kernel
theorem dX0_markStart_26 : decode cX0_markStart 26 = .ok (.iload 5, 2) := by decide +kernel
theorem dX0_markStart_28 : decode cX0_markStart 28 = .ok (.ishr, 1) := by decide +kernel
theorem dX0_markStart_29 : decode cX0_markStart 29 = .ok (.iconst 1, 1) := by decide +kernel
theorem dX0_markStart_30 : decode cX0_markStart 30 = .ok (.iand, 1) := by decide +kernel
theorem dX0_markStart_31 : decode cX0_markStart 31 = .ok (.ifCond .eq 40, 3) := by decide +kernel
theorem dX0_markStart_34 : decode cX0_markStart 34 = .ok (.aload_n 0, 1) := by decide +kernel
theorem dX0_markStart_35 : decode cX0_markStart 35 = .ok (.getfield 24, 3) := by decide +kernel
theorem dX0_markStart_38 : decode cX0_markStart 38 = .ok (.iload 5, 2) := by decide +kernel
theorem dX0_markStart_40 : decode cX0_markStart 40 = .ok (.aload_n 1, 1) := by decide +kernel
theorem dX0_markStart_41 : decode cX0_markStart 41 = .ok (.getfield 80, 3) := by decide +kernel
theorem dX0_markStart_44 : decode cX0_markStart 44 = .ok (.getfield 142, 3) := by decide +kernel
theorem dX0_markStart_47 : decode cX0_markStart 47 = .ok (.iload 5, 2) := by decide +kernel
theorem dX0_markStart_49 : decode cX0_markStart 49 = .ok (.iaload, 1) := by decide +kernel
theorem dX0_markStart_50 : decode cX0_markStart 50 = .ok (.iastore, 1) := by decide +kernel
theorem dX0_markStart_51 : decode cX0_markStart 51 = .ok (.iload 4, 2) := by decide +kernel
theorem dX0_markStart_53 : decode cX0_markStart 53 = .ok (.aload_n 0, 1) := by decide +kernel
theorem dX0_markStart_54 : decode cX0_markStart 54 = .ok (.getfield 24, 3) := by decide +kernel
theorem dX0_markStart_57 : decode cX0_markStart 57 = .ok (.iload 5, 2) := by decide +kernel
theorem dX0_markStart_59 : decode cX0_markStart 59 = .ok (.iaload, 1) := by decide +kernel
theorem dX0_markStart_60 : decode cX0_markStart 60 = .ok (.aload_n 0, 1) := by decide +kernel
theorem dX0_markStart_61 : decode cX0_markStart 61 = .ok (.getfield 20, 3) := by decide +kernel
theorem dX0_markStart_64 : decode cX0_markStart 64 = .ok (.iload 5, 2) := by decide +kernel
theorem dX0_markStart_66 : decode cX0_markStart 66 = .ok (.iaload, 1) := by decide +kernel
theorem dX0_markStart_67 : decode cX0_markStart 67 = .ok (.imul, 1) := by decide +kernel
theorem dX0_markStart_68 : decode cX0_markStart 68 = .ok (.iadd, 1) := by decide +kernel
theorem dX0_markStart_69 : decode cX0_markStart 69 = .ok (.istore 4, 2) := by decide +kernel
theorem dX0_markStart_71 : decode cX0_markStart 71 = .ok (.iinc 5 1, 3) := by decide +kernel
theorem dX0_markStart_74 : decode cX0_markStart 74 = .ok (.goto (-68), 3) := by decide +kernel
theorem dX0_markStart_77 : decode cX0_markStart 77 = .ok (.aload_n 0, 1) := by decide +kernel
theorem dX0_markStart_78 : decode cX0_markStart 78 = .ok (.iload 4, 2) := by decide +kernel
theorem dX0_markStart_80 : decode cX0_markStart 80 = .ok (.aload_n 0, 1) := by decide +kernel
theorem dX0_markStart_81 : decode cX0_markStart 81 = .ok (.aload_n 1, 1) := by decide +kernel
theorem dX0_markStart_82 : decode cX0_markStart 82 = .ok (.iload_n 2, 1) := by decide +kernel
theorem dX0_markStart_83 : decode cX0_markStart 83 = .ok (.aload_n 0, 1) := by decide +kernel
theorem dX0_markStart_84 : decode cX0_markStart 84 = .ok (.aload_n 1, 1) := by decide +kernel
theorem dX0_markStart_85 : decode cX0_markStart 85 = .ok (.invokevirtual 181, 3) := by decide +kernel
theorem dX0_markStart_88 : decode cX0_markStart 88 = .ok (.invokevirtual 185, 3) := by decide +kernel
theorem dX0_markStart_91 : decode cX0_markStart 91 = .ok (.aload_n 0, 1) := by decide +kernel
theorem dX0_markStart_92 : decode cX0_markStart 92 = .ok (.getfield 46, 3) := by decide +kernel
theorem dX0_markStart_95 : decode cX0_markStart 95 = .ok (.imul, 1) := by decide +kernel
theorem dX0_markStart_96 : decode cX0_markStart 96 = .ok (.iadd, 1) := by decide +kernel
theorem dX0_markStart_97 : decode cX0_markStart 97 = .ok (.invokevirtual 189, 3) := by decide +kernel
theorem dX0_markStart_100 : decode cX0_markStart 100 = .ok (.return_, 1) := by decide +kernel
theorem dX0_advance_0 : decode cX0_advance 0 = .ok (.aload_n 0, 1) := by decide +kernel
theorem dX0_advance_1 : decode cX0_advance 1 = .ok (.getfield 36, 3) := by decide +kernel
theorem dX0_advance_4 : decode cX0_advance 4 = .ok (.astore_n 1, 1) := by decide +kernel
theorem dX0_advance_5 : decode cX0_advance 5 = .ok (.aload_n 0, 1) := by decide +kernel
theorem dX0_advance_6 : decode cX0_advance 6 = .ok (.aload_n 0, 1) := by decide +kernel
theorem dX0_advance_7 : decode cX0_advance 7 = .ok (.getfield 39, 3) := by decide +kernel
theorem dX0_advance_10 : decode cX0_advance 10 = .ok (.putfield 36, 3) := by decide +kernel
theorem dX0_advance_13 : decode cX0_advance 13 = .ok (.aload_n 0, 1) := by decide +kernel
theorem dX0_advance_14 : decode cX0_advance 14 = .ok (.aload_n 1, 1) := by decide +kernel
theorem dX0_advance_15 : decode cX0_advance 15 = .ok (.putfield 39, 3) := by decide +kernel
theorem dX0_advance_18 : decode cX0_advance 18 = .ok (.iconst 0, 1) := by decide +kernel
theorem dX0_advance_19 : decode cX0_advance 19 = .ok (.istore_n 2, 1) := by decide +kernel
theorem dX0_advance_20 : decode cX0_advance 20 = .ok (.iconst 0, 1) := by decide +kernel
theorem dX0_advance_21 : decode cX0_advance 21 = .ok (.istore_n 3, 1) := by decide +kernel
theorem dX0_advance_22 : decode cX0_advance 22 = .ok (.iload_n 3, 1) := by decide +kernel
theorem dX0_advance_23 : decode cX0_advance 23 = .ok (.sipush 1201, 3) := by decide +kernel
theorem dX0_advance_26 : decode cX0_advance 26 = .ok (.if_icmp .ge 40, 3) := by decide +kernel
theorem dX0_advance_29 : decode cX0_advance 29 = .ok (.iload_n 3, 1) := by decide +kernel
theorem dX0_advance_30 : decode cX0_advance 30 = .ok (.bipush 64, 2) := by decide +kernel
theorem dX0_advance_32 : decode cX0_advance 32 = .ok (.imul, 1) := by decide +kernel
theorem dX0_advance_33 : decode cX0_advance 33 = .ok (.aload_n 0, 1) := by decide +kernel
theorem dX0_advance_34 : decode cX0_advance 34 = .ok (.getfield 49, 3) := by decide +kernel
theorem dX0_advance_37 : decode cX0_advance 37 = .ok (.if_icmp .ge 29, 3) := by decide +kernel
theorem dX0_advance_40 : decode cX0_advance 40 = .ok (.aload_n 0, 1) := by decide +kernel
theorem dX0_advance_41 : decode cX0_advance 41 = .ok (.getfield 39, 3) := by decide +kernel
theorem dX0_advance_44 : decode cX0_advance 44 = .ok (.iload_n 3, 1) := by decide +kernel
theorem dX0_advance_45 : decode cX0_advance 45 = .ok (.lconst 0, 1) := by decide +kernel
theorem dX0_advance_46 : decode cX0_advance 46 = .ok (.lastore, 1) := by decide +kernel
theorem dX0_advance_47 : decode cX0_advance 47 = .ok (.aload_n 0, 1) := by decide +kernel
theorem dX0_advance_48 : decode cX0_advance 48 = .ok (.getfield 36, 3) := by decide +kernel
theorem dX0_advance_51 : decode cX0_advance 51 = .ok (.iload_n 3, 1) := by decide +kernel
theorem dX0_advance_52 : decode cX0_advance 52 = .ok (.laload, 1) := by decide +kernel
theorem dX0_advance_53 : decode cX0_advance 53 = .ok (.lconst 0, 1) := by decide +kernel
theorem dX0_advance_54 : decode cX0_advance 54 = .ok (.lcmp, 1) := by decide +kernel
theorem dX0_advance_55 : decode cX0_advance 55 = .ok (.ifCond .eq 5, 3) := by decide +kernel
theorem dX0_advance_58 : decode cX0_advance 58 = .ok (.iconst 1, 1) := by decide +kernel
theorem dX0_advance_59 : decode cX0_advance 59 = .ok (.istore_n 2, 1) := by decide +kernel
theorem dX0_advance_60 : decode cX0_advance 60 = .ok (.iinc 3 1, 3) := by decide +kernel
theorem dX0_advance_63 : decode cX0_advance 63 = .ok (.goto (-41), 3) := by decide +kernel
theorem dX0_advance_66 : decode cX0_advance 66 = .ok (.iload_n 2, 1) := by decide +kernel
theorem dX0_advance_67 : decode cX0_advance 67 = .ok (.ireturn, 1) := by decide +kernel
theorem dX0_searchLevel_0 : decode cX0_searchLevel 0 = .ok (.iconst 0, 1) := by decide +kernel
theorem dX0_searchLevel_1 : decode cX0_searchLevel 1 = .ok (.istore_n 2, 1) := by decide +kernel
theorem dX0_searchLevel_2 : decode cX0_searchLevel 2 = .ok (.iload_n 2, 1) := by decide +kernel
theorem dX0_searchLevel_3 : decode cX0_searchLevel 3 = .ok (.sipush 1201, 3) := by decide +kernel
theorem dX0_searchLevel_6 : decode cX0_searchLevel 6 = .ok (.if_icmp .ge 78, 3) := by decide +kernel
theorem dX0_searchLevel_9 : decode cX0_searchLevel 9 = .ok (.iload_n 2, 1) := by decide +kernel
theorem dX0_searchLevel_10 : decode cX0_searchLevel 10 = .ok (.bipush 64, 2) := by decide +kernel
theorem dX0_searchLevel_12 : decode cX0_searchLevel 12 = .ok (.imul, 1) := by decide +kernel
theorem dX0_searchLevel_13 : decode cX0_searchLevel 13 = .ok (.aload_n 0, 1) := by decide +kernel
theorem dX0_searchLevel_14 : decode cX0_searchLevel 14 = .ok (.getfield 49, 3) := by decide +kernel
theorem dX0_searchLevel_17 : decode cX0_searchLevel 17 = .ok (.if_icmp .ge 67, 3) := by decide +kernel
theorem dX0_searchLevel_20 : decode cX0_searchLevel 20 = .ok (.aload_n 0, 1) := by decide +kernel
theorem dX0_searchLevel_21 : decode cX0_searchLevel 21 = .ok (.getfield 36, 3) := by decide +kernel
theorem dX0_searchLevel_24 : decode cX0_searchLevel 24 = .ok (.iload_n 2, 1) := by decide +kernel
theorem dX0_searchLevel_25 : decode cX0_searchLevel 25 = .ok (.laload, 1) := by decide +kernel
theorem dX0_searchLevel_26 : decode cX0_searchLevel 26 = .ok (.lstore_n 3, 1) := by decide +kernel
theorem dX0_searchLevel_27 : decode cX0_searchLevel 27 = .ok (.iconst 0, 1) := by decide +kernel
theorem dX0_searchLevel_28 : decode cX0_searchLevel 28 = .ok (.istore 5, 2) := by decide +kernel
theorem dX0_searchLevel_30 : decode cX0_searchLevel 30 = .ok (.iload 5, 2) := by decide +kernel
theorem dX0_searchLevel_32 : decode cX0_searchLevel 32 = .ok (.bipush 64, 2) := by decide +kernel
theorem dX0_searchLevel_34 : decode cX0_searchLevel 34 = .ok (.if_icmp .ge 44, 3) := by decide +kernel
theorem dX0_searchLevel_37 : decode cX0_searchLevel 37 = .ok (.lload_n 3, 1) := by decide +kernel
theorem dX0_searchLevel_38 : decode cX0_searchLevel 38 = .ok (.lconst 0, 1) := by decide +kernel
theorem dX0_searchLevel_39 : decode cX0_searchLevel 39 = .ok (.lcmp, 1) := by decide +kernel
theorem dX0_searchLevel_40 : decode cX0_searchLevel 40 = .ok (.ifCond .eq 38, 3) := by decide +kernel
theorem dX0_searchLevel_43 : decode cX0_searchLevel 43 = .ok (.lload_n 3, 1) := by decide +kernel
theorem dX0_searchLevel_44 : decode cX0_searchLevel 44 = .ok (.lconst 1, 1) := by decide +kernel
theorem dX0_searchLevel_45 : decode cX0_searchLevel 45 = .ok (.land, 1) := by decide +kernel
theorem dX0_searchLevel_46 : decode cX0_searchLevel 46 = .ok (.lconst 0, 1) := by decide +kernel
theorem dX0_searchLevel_47 : decode cX0_searchLevel 47 = .ok (.lcmp, 1) := by decide +kernel
theorem dX0_searchLevel_48 : decode cX0_searchLevel 48 = .ok (.ifCond .eq 20, 3) := by decide +kernel
theorem dX0_searchLevel_51 : decode cX0_searchLevel 51 = .ok (.aload_n 0, 1) := by decide +kernel
theorem dX0_searchLevel_52 : decode cX0_searchLevel 52 = .ok (.aload_n 1, 1) := by decide +kernel
theorem dX0_searchLevel_53 : decode cX0_searchLevel 53 = .ok (.iload_n 2, 1) := by decide +kernel
theorem dX0_searchLevel_54 : decode cX0_searchLevel 54 = .ok (.bipush 64, 2) := by decide +kernel
theorem dX0_searchLevel_56 : decode cX0_searchLevel 56 = .ok (.imul, 1) := by decide +kernel
theorem dX0_searchLevel_57 : decode cX0_searchLevel 57 = .ok (.iload 5, 2) := by decide +kernel
theorem dX0_searchLevel_59 : decode cX0_searchLevel 59 = .ok (.iadd, 1) := by decide +kernel
theorem dX0_searchLevel_60 : decode cX0_searchLevel 60 = .ok (.invokevirtual 193, 3) := by decide +kernel
theorem dX0_searchLevel_63 : decode cX0_searchLevel 63 = .ok (.ifCond .eq 5, 3) := by decide +kernel
theorem dX0_searchLevel_66 : decode cX0_searchLevel 66 = .ok (.iconst 1, 1) := by decide +kernel
theorem dX0_searchLevel_67 : decode cX0_searchLevel 67 = .ok (.ireturn, 1) := by decide +kernel
theorem dX0_searchLevel_68 : decode cX0_searchLevel 68 = .ok (.lload_n 3, 1) := by decide +kernel
theorem dX0_searchLevel_69 : decode cX0_searchLevel 69 = .ok (.iconst 1, 1) := by decide +kernel
theorem dX0_searchLevel_70 : decode cX0_searchLevel 70 = .ok (.lushr, 1) := by decide +kernel
theorem dX0_searchLevel_71 : decode cX0_searchLevel 71 = .ok (.lstore_n 3, 1) := by decide +kernel
theorem dX0_searchLevel_72 : decode cX0_searchLevel 72 = .ok (.iinc 5 1, 3) := by decide +kernel
theorem dX0_searchLevel_75 : decode cX0_searchLevel 75 = .ok (.goto (-45), 3) := by decide +kernel
theorem dX0_searchLevel_78 : decode cX0_searchLevel 78 = .ok (.iinc 2 1, 3) := by decide +kernel
theorem dX0_searchLevel_81 : decode cX0_searchLevel 81 = .ok (.goto (-79), 3) := by decide +kernel
theorem dX0_searchLevel_84 : decode cX0_searchLevel 84 = .ok (.iconst 0, 1) := by decide +kernel
theorem dX0_searchLevel_85 : decode cX0_searchLevel 85 = .ok (.ireturn, 1) := by decide +kernel
theorem dX0_visit_0 : decode cX0_visit 0 = .ok (.aload_n 1, 1) := by decide +kernel
theorem dX0_visit_1 : decode cX0_visit 1 = .ok (.getfield 73, 3) := by decide +kernel
theorem dX0_visit_4 : decode cX0_visit 4 = .ok (.iconst 0, 1) := by decide +kernel
theorem dX0_visit_5 : decode cX0_visit 5 = .ok (.iaload, 1) := by decide +kernel
theorem dX0_visit_6 : decode cX0_visit 6 = .ok (.istore_n 3, 1) := by decide +kernel
theorem dX0_visit_7 : decode cX0_visit 7 = .ok (.iload_n 3, 1) := by decide +kernel
theorem dX0_visit_8 : decode cX0_visit 8 = .ok (.iconst 1, 1) := by decide +kernel
theorem dX0_visit_9 : decode cX0_visit 9 = .ok (.if_icmp .lt 11, 3) := by decide +kernel
theorem dX0_visit_12 : decode cX0_visit 12 = .ok (.aload_n 0, 1) := by decide +kernel
theorem dX0_visit_13 : decode cX0_visit 13 = .ok (.getfield 46, 3) := by decide +kernel
theorem dX0_visit_16 : decode cX0_visit 16 = .ok (.iconst 1, 1) := by decide +kernel
theorem dX0_visit_17 : decode cX0_visit 17 = .ok (.if_icmp .ge 5, 3) := by decide +kernel
theorem dX0_visit_20 : decode cX0_visit 20 = .ok (.iconst 0, 1) := by decide +kernel
theorem dX0_visit_21 : decode cX0_visit 21 = .ok (.ireturn, 1) := by decide +kernel
theorem dX0_visit_22 : decode cX0_visit 22 = .ok (.iconst 0, 1) := by decide +kernel
theorem dX0_visit_23 : decode cX0_visit 23 = .ok (.istore 4, 2) := by decide +kernel
theorem dX0_visit_25 : decode cX0_visit 25 = .ok (.iload 4, 2) := by decide +kernel
theorem dX0_visit_27 : decode cX0_visit 27 = .ok (.aload_n 1, 1) := by decide +kernel
theorem dX0_visit_28 : decode cX0_visit 28 = .ok (.getfield 73, 3) := by decide +kernel
theorem dX0_visit_31 : decode cX0_visit 31 = .ok (.iconst 2, 1) := by decide +kernel
theorem dX0_visit_32 : decode cX0_visit 32 = .ok (.iaload, 1) := by decide +kernel
theorem dX0_visit_33 : decode cX0_visit 33 = .ok (.if_icmp .ge 53, 3) := by decide +kernel
theorem dX0_visit_36 : decode cX0_visit 36 = .ok (.aload_n 0, 1) := by decide +kernel
theorem dX0_visit_37 : decode cX0_visit 37 = .ok (.getfield 24, 3) := by decide +kernel
theorem dX0_visit_40 : decode cX0_visit 40 = .ok (.iload 4, 2) := by decide +kernel
theorem dX0_visit_42 : decode cX0_visit 42 = .ok (.aload_n 0, 1) := by decide +kernel
theorem dX0_visit_43 : decode cX0_visit 43 = .ok (.getfield 20, 3) := by decide +kernel
theorem dX0_visit_46 : decode cX0_visit 46 = .ok (.iload 4, 2) := by decide +kernel
theorem dX0_visit_48 : decode cX0_visit 48 = .ok (.iaload, 1) := by decide +kernel
theorem dX0_visit_49 : decode cX0_visit 49 = .ok (.iconst 1, 1) := by decide +kernel
theorem dX0_visit_50 : decode cX0_visit 50 = .ok (.if_icmp .ge 7, 3) := by decide +kernel
theorem dX0_visit_53 : decode cX0_visit 53 = .ok (.iconst 0, 1) := by decide +kernel
theorem dX0_visit_54 : decode cX0_visit 54 = .ok (.goto 25, 3) := by decide +kernel
theorem dX0_visit_57 : decode cX0_visit 57 = .ok (.iload_n 2, 1) := by decide +kernel
theorem dX0_visit_58 : decode cX0_visit 58 = .ok (.aload_n 0, 1) := by decide +kernel
theorem dX0_visit_59 : decode cX0_visit 59 = .ok (.getfield 20, 3) := by decide +kernel
theorem dX0_visit_62 : decode cX0_visit 62 = .ok (.iload 4, 2) := by decide +kernel
theorem dX0_visit_64 : decode cX0_visit 64 = .ok (.iaload, 1) := by decide +kernel
theorem dX0_visit_65 : decode cX0_visit 65 = .ok (.idiv, 1) := by decide +kernel
theorem dX0_visit_66 : decode cX0_visit 66 = .ok (.aload_n 1, 1) := by decide +kernel
theorem dX0_visit_67 : decode cX0_visit 67 = .ok (.getfield 80, 3) := by decide +kernel
theorem dX0_visit_70 : decode cX0_visit 70 = .ok (.getfield 142, 3) := by decide +kernel
theorem dX0_visit_73 : decode cX0_visit 73 = .ok (.iload 4, 2) := by decide +kernel
theorem dX0_visit_75 : decode cX0_visit 75 = .ok (.iaload, 1) := by decide +kernel
theorem dX0_visit_76 : decode cX0_visit 76 = .ok (.iconst 1, 1) := by decide +kernel
theorem dX0_visit_77 : decode cX0_visit 77 = .ok (.iadd, 1) := by decide +kernel
theorem dX0_visit_78 : decode cX0_visit 78 = .ok (.irem, 1) := by decide +kernel
theorem dX0_visit_79 : decode cX0_visit 79 = .ok (.iastore, 1) := by decide +kernel
theorem dX0_visit_80 : decode cX0_visit 80 = .ok (.iinc 4 1, 3) := by decide +kernel
theorem dX0_visit_83 : decode cX0_visit 83 = .ok (.goto (-58), 3) := by decide +kernel
theorem dX0_visit_86 : decode cX0_visit 86 = .ok (.iload_n 2, 1) := by decide +kernel
theorem dX0_visit_87 : decode cX0_visit 87 = .ok (.iload_n 3, 1) := by decide +kernel
theorem dX0_visit_88 : decode cX0_visit 88 = .ok (.irem, 1) := by decide +kernel
theorem dX0_visit_89 : decode cX0_visit 89 = .ok (.istore 4, 2) := by decide +kernel
theorem dX0_visit_91 : decode cX0_visit 91 = .ok (.iload_n 2, 1) := by decide +kernel
theorem dX0_visit_92 : decode cX0_visit 92 = .ok (.aload_n 0, 1) := by decide +kernel
theorem dX0_visit_93 : decode cX0_visit 93 = .ok (.getfield 46, 3) := by decide +kernel
theorem dX0_visit_96 : decode cX0_visit 96 = .ok (.idiv, 1) := by decide +kernel
theorem dX0_visit_97 : decode cX0_visit 97 = .ok (.istore 5, 2) := by decide +kernel
theorem dX0_visit_99 : decode cX0_visit 99 = .ok (.aload_n 0, 1) := by decide +kernel
theorem dX0_visit_100 : decode cX0_visit 100 = .ok (.aload_n 1, 1) := by decide +kernel
theorem dX0_visit_101 : decode cX0_visit 101 = .ok (.invokevirtual 181, 3) := by decide +kernel
theorem dX0_visit_104 : decode cX0_visit 104 = .ok (.istore 6, 2) := by decide +kernel
theorem dX0_visit_106 : decode cX0_visit 106 = .ok (.aload_n 0, 1) := by decide +kernel
theorem dX0_visit_107 : decode cX0_visit 107 = .ok (.dup, 1) := by decide +kernel
theorem dX0_visit_108 : decode cX0_visit 108 = .ok (.getfield 61, 3) := by decide +kernel
theorem dX0_visit_111 : decode cX0_visit 111 = .ok (.iconst 1, 1) := by decide +kernel
theorem dX0_visit_112 : decode cX0_visit 112 = .ok (.iload 4, 2) := by decide +kernel
theorem dX0_visit_114 : decode cX0_visit 114 = .ok (.ishl, 1) := by decide +kernel
theorem dX0_visit_115 : decode cX0_visit 115 = .ok (.ior, 1) := by decide +kernel
theorem dX0_visit_116 : decode cX0_visit 116 = .ok (.putfield 61, 3) := by decide +kernel
theorem dX0_visit_119 : decode cX0_visit 119 = .ok (.aload_n 0, 1) := by decide +kernel
theorem dX0_visit_120 : decode cX0_visit 120 = .ok (.iload 4, 2) := by decide +kernel
theorem dX0_visit_122 : decode cX0_visit 122 = .ok (.iload 6, 2) := by decide +kernel
theorem dX0_visit_124 : decode cX0_visit 124 = .ok (.iload 5, 2) := by decide +kernel
theorem dX0_visit_126 : decode cX0_visit 126 = .ok (.invokevirtual 197, 3) := by decide +kernel
theorem dX0_visit_129 : decode cX0_visit 129 = .ok (.ifCond .eq 5, 3) := by decide +kernel
theorem dX0_visit_132 : decode cX0_visit 132 = .ok (.iconst 1, 1) := by decide +kernel
theorem dX0_visit_133 : decode cX0_visit 133 = .ok (.ireturn, 1) := by decide +kernel
theorem dX0_visit_134 : decode cX0_visit 134 = .ok (.aload_n 0, 1) := by decide +kernel
theorem dX0_visit_135 : decode cX0_visit 135 = .ok (.aload_n 1, 1) := by decide +kernel
theorem dX0_visit_136 : decode cX0_visit 136 = .ok (.iload_n 2, 1) := by decide +kernel
theorem dX0_visit_137 : decode cX0_visit 137 = .ok (.iload 4, 2) := by decide +kernel
theorem dX0_visit_139 : decode cX0_visit 139 = .ok (.iload 5, 2) := by decide +kernel
theorem dX0_visit_141 : decode cX0_visit 141 = .ok (.iload 6, 2) := by decide +kernel
theorem dX0_visit_143 : decode cX0_visit 143 = .ok (.invokevirtual 201, 3) := by decide +kernel
theorem dX0_visit_146 : decode cX0_visit 146 = .ok (.aload_n 0, 1) := by decide +kernel
theorem dX0_visit_147 : decode cX0_visit 147 = .ok (.aload_n 1, 1) := by decide +kernel
theorem dX0_visit_148 : decode cX0_visit 148 = .ok (.iload_n 2, 1) := by decide +kernel
theorem dX0_visit_149 : decode cX0_visit 149 = .ok (.iload 4, 2) := by decide +kernel
theorem dX0_visit_151 : decode cX0_visit 151 = .ok (.iload 5, 2) := by decide +kernel
theorem dX0_visit_153 : decode cX0_visit 153 = .ok (.invokevirtual 205, 3) := by decide +kernel
theorem dX0_visit_156 : decode cX0_visit 156 = .ok (.iconst 0, 1) := by decide +kernel
theorem dX0_visit_157 : decode cX0_visit 157 = .ok (.ireturn, 1) := by decide +kernel
theorem dX0_isGoal_0 : decode cX0_isGoal 0 = .ok (.aload_n 0, 1) := by decide +kernel
theorem dX0_isGoal_1 : decode cX0_isGoal 1 = .ok (.getfield 55, 3) := by decide +kernel
theorem dX0_isGoal_4 : decode cX0_isGoal 4 = .ok (.tableswitch 77 0 2 #[28, 42, 59], 28) := by decide +kernel
theorem dX0_isGoal_32 : decode cX0_isGoal 32 = .ok (.iload_n 1, 1) := by decide +kernel
theorem dX0_isGoal_33 : decode cX0_isGoal 33 = .ok (.aload_n 0, 1) := by decide +kernel
theorem dX0_isGoal_34 : decode cX0_isGoal 34 = .ok (.getfield 58, 3) := by decide +kernel
theorem dX0_isGoal_37 : decode cX0_isGoal 37 = .ok (.if_icmp .ne 7, 3) := by decide +kernel
theorem dX0_isGoal_40 : decode cX0_isGoal 40 = .ok (.iconst 1, 1) := by decide +kernel
theorem dX0_isGoal_41 : decode cX0_isGoal 41 = .ok (.goto 4, 3) := by decide +kernel
theorem dX0_isGoal_44 : decode cX0_isGoal 44 = .ok (.iconst 0, 1) := by decide +kernel
theorem dX0_isGoal_45 : decode cX0_isGoal 45 = .ok (.ireturn, 1) := by decide +kernel
theorem dX0_isGoal_46 : decode cX0_isGoal 46 = .ok (.iload_n 2, 1) := by decide +kernel
theorem dX0_isGoal_47 : decode cX0_isGoal 47 = .ok (.aload_n 0, 1) := by decide +kernel
theorem dX0_isGoal_48 : decode cX0_isGoal 48 = .ok (.getfield 58, 3) := by decide +kernel
theorem dX0_isGoal_51 : decode cX0_isGoal 51 = .ok (.ishr, 1) := by decide +kernel
theorem dX0_isGoal_52 : decode cX0_isGoal 52 = .ok (.iconst 1, 1) := by decide +kernel
theorem dX0_isGoal_53 : decode cX0_isGoal 53 = .ok (.iand, 1) := by decide +kernel
theorem dX0_isGoal_54 : decode cX0_isGoal 54 = .ok (.ifCond .ne 7, 3) := by decide +kernel
theorem dX0_isGoal_57 : decode cX0_isGoal 57 = .ok (.iconst 1, 1) := by decide +kernel
theorem dX0_isGoal_58 : decode cX0_isGoal 58 = .ok (.goto 4, 3) := by decide +kernel
theorem dX0_isGoal_61 : decode cX0_isGoal 61 = .ok (.iconst 0, 1) := by decide +kernel
theorem dX0_isGoal_62 : decode cX0_isGoal 62 = .ok (.ireturn, 1) := by decide +kernel
theorem dX0_isGoal_63 : decode cX0_isGoal 63 = .ok (.iload_n 3, 1) := by decide +kernel
theorem dX0_isGoal_64 : decode cX0_isGoal 64 = .ok (.iconst 1, 1) := by decide +kernel
theorem dX0_isGoal_65 : decode cX0_isGoal 65 = .ok (.aload_n 0, 1) := by decide +kernel
theorem dX0_isGoal_66 : decode cX0_isGoal 66 = .ok (.getfield 42, 3) := by decide +kernel
theorem dX0_isGoal_69 : decode cX0_isGoal 69 = .ok (.ishl, 1) := by decide +kernel
theorem dX0_isGoal_70 : decode cX0_isGoal 70 = .ok (.iconst 1, 1) := by decide +kernel
theorem dX0_isGoal_71 : decode cX0_isGoal 71 = .ok (.isub, 1) := by decide +kernel
theorem dX0_isGoal_72 : decode cX0_isGoal 72 = .ok (.if_icmp .ne 7, 3) := by decide +kernel
theorem dX0_isGoal_75 : decode cX0_isGoal 75 = .ok (.iconst 1, 1) := by decide +kernel
theorem dX0_isGoal_76 : decode cX0_isGoal 76 = .ok (.goto 4, 3) := by decide +kernel
theorem dX0_isGoal_79 : decode cX0_isGoal 79 = .ok (.iconst 0, 1) := by decide +kernel
theorem dX0_isGoal_80 : decode cX0_isGoal 80 = .ok (.ireturn, 1) := by decide +kernel
theorem dX0_isGoal_81 : decode cX0_isGoal 81 = .ok (.aload_n 0, 1) := by decide +kernel
theorem dX0_isGoal_82 : decode cX0_isGoal 82 = .ok (.getfield 61, 3) := by decide +kernel
theorem dX0_isGoal_85 : decode cX0_isGoal 85 = .ok (.aload_n 0, 1) := by decide +kernel
theorem dX0_isGoal_86 : decode cX0_isGoal 86 = .ok (.getfield 58, 3) := by decide +kernel
theorem dX0_isGoal_89 : decode cX0_isGoal 89 = .ok (.if_icmp .ne 7, 3) := by decide +kernel
theorem dX0_isGoal_92 : decode cX0_isGoal 92 = .ok (.iconst 1, 1) := by decide +kernel
theorem dX0_isGoal_93 : decode cX0_isGoal 93 = .ok (.goto 4, 3) := by decide +kernel
theorem dX0_isGoal_96 : decode cX0_isGoal 96 = .ok (.iconst 0, 1) := by decide +kernel
theorem dX0_isGoal_97 : decode cX0_isGoal 97 = .ok (.ireturn, 1) := by decide +kernel
theorem dX0_markGoing_0 : decode cX0_markGoing 0 = .ok (.iload_n 3, 1) := by decide +kernel
theorem dX0_markGoing_1 : decode cX0_markGoing 1 = .ok (.bipush 11, 2) := by decide +kernel
theorem dX0_markGoing_3 : decode cX0_markGoing 3 = .ok (.imul, 1) := by decide +kernel
theorem dX0_markGoing_4 : decode cX0_markGoing 4 = .ok (.iload 5, 2) := by decide +kernel
theorem dX0_markGoing_6 : decode cX0_markGoing 6 = .ok (.invokestatic 104, 3) := by decide +kernel
theorem dX0_markGoing_9 : decode cX0_markGoing 9 = .ok (.iadd, 1) := by decide +kernel
theorem dX0_markGoing_10 : decode cX0_markGoing 10 = .ok (.istore 6, 2) := by decide +kernel
theorem dX0_markGoing_12 : decode cX0_markGoing 12 = .ok (.iload_n 3, 1) := by decide +kernel
theorem dX0_markGoing_13 : decode cX0_markGoing 13 = .ok (.ifCond .lt 16, 3) := by decide +kernel
theorem dX0_markGoing_16 : decode cX0_markGoing 16 = .ok (.iload_n 3, 1) := by decide +kernel
theorem dX0_markGoing_17 : decode cX0_markGoing 17 = .ok (.bipush 8, 2) := by decide +kernel
theorem dX0_markGoing_19 : decode cX0_markGoing 19 = .ok (.if_icmp .ge 10, 3) := by decide +kernel
theorem dX0_markGoing_22 : decode cX0_markGoing 22 = .ok (.iload 6, 2) := by decide +kernel
theorem dX0_markGoing_24 : decode cX0_markGoing 24 = .ok (.bipush 88, 2) := by decide +kernel
theorem dX0_markGoing_26 : decode cX0_markGoing 26 = .ok (.if_icmp .lt 4, 3) := by decide +kernel
theorem dX0_markGoing_29 : decode cX0_markGoing 29 = .ok (.return_, 1) := by decide +kernel
theorem dX0_markGoing_30 : decode cX0_markGoing 30 = .ok (.aload_n 0, 1) := by decide +kernel
theorem dX0_markGoing_31 : decode cX0_markGoing 31 = .ok (.getfield 27, 3) := by decide +kernel
theorem dX0_markGoing_34 : decode cX0_markGoing 34 = .ok (.iload_n 3, 1) := by decide +kernel
theorem dX0_markGoing_35 : decode cX0_markGoing 35 = .ok (.iaload, 1) := by decide +kernel
theorem dX0_markGoing_36 : decode cX0_markGoing 36 = .ok (.iload 5, 2) := by decide +kernel
theorem dX0_markGoing_38 : decode cX0_markGoing 38 = .ok (.iconst (-1), 1) := by decide +kernel
theorem dX0_markGoing_39 : decode cX0_markGoing 39 = .ok (.ixor, 1) := by decide +kernel
theorem dX0_markGoing_40 : decode cX0_markGoing 40 = .ok (.iand, 1) := by decide +kernel
theorem dX0_markGoing_41 : decode cX0_markGoing 41 = .ok (.aload_n 0, 1) := by decide +kernel
theorem dX0_markGoing_42 : decode cX0_markGoing 42 = .ok (.getfield 30, 3) := by decide +kernel
theorem dX0_markGoing_45 : decode cX0_markGoing 45 = .ok (.iload 6, 2) := by decide +kernel
theorem dX0_markGoing_47 : decode cX0_markGoing 47 = .ok (.iaload, 1) := by decide +kernel
theorem dX0_markGoing_48 : decode cX0_markGoing 48 = .ok (.iconst (-1), 1) := by decide +kernel
theorem dX0_markGoing_49 : decode cX0_markGoing 49 = .ok (.ixor, 1) := by decide +kernel
theorem dX0_markGoing_50 : decode cX0_markGoing 50 = .ok (.iand, 1) := by decide +kernel
theorem dX0_markGoing_51 : decode cX0_markGoing 51 = .ok (.istore 7, 2) := by decide +kernel
theorem dX0_markGoing_53 : decode cX0_markGoing 53 = .ok (.iconst 0, 1) := by decide +kernel
theorem dX0_markGoing_54 : decode cX0_markGoing 54 = .ok (.istore 8, 2) := by decide +kernel
theorem dX0_markGoing_56 : decode cX0_markGoing 56 = .ok (.iload 8, 2) := by decide +kernel
theorem dX0_markGoing_58 : decode cX0_markGoing 58 = .ok (.bipush 10, 2) := by decide +kernel
theorem dX0_markGoing_60 : decode cX0_markGoing 60 = .ok (.if_icmp .ge 70, 3) := by decide +kernel
theorem dX0_markGoing_63 : decode cX0_markGoing 63 = .ok (.iload 7, 2) := by decide +kernel
theorem dX0_markGoing_65 : decode cX0_markGoing 65 = .ok (.iload 8, 2) := by decide +kernel
theorem dX0_markGoing_67 : decode cX0_markGoing 67 = .ok (.ishr, 1) := by decide +kernel
theorem dX0_markGoing_68 : decode cX0_markGoing 68 = .ok (.ifCond .eq 62, 3) := by decide +kernel
theorem dX0_markGoing_71 : decode cX0_markGoing 71 = .ok (.iload 7, 2) := by decide +kernel
theorem dX0_markGoing_73 : decode cX0_markGoing 73 = .ok (.iload 8, 2) := by decide +kernel
theorem dX0_markGoing_75 : decode cX0_markGoing 75 = .ok (.ishr, 1) := by decide +kernel
theorem dX0_markGoing_76 : decode cX0_markGoing 76 = .ok (.iconst 1, 1) := by decide +kernel
theorem dX0_markGoing_77 : decode cX0_markGoing 77 = .ok (.iand, 1) := by decide +kernel
theorem dX0_markGoing_78 : decode cX0_markGoing 78 = .ok (.ifCond .eq 46, 3) := by decide +kernel
theorem dX0_markGoing_81 : decode cX0_markGoing 81 = .ok (.aload_n 1, 1) := by decide +kernel
theorem dX0_markGoing_82 : decode cX0_markGoing 82 = .ok (.iload 8, 2) := by decide +kernel
theorem dX0_markGoing_84 : decode cX0_markGoing 84 = .ok (.iload_n 3, 1) := by decide +kernel
theorem dX0_markGoing_85 : decode cX0_markGoing 85 = .ok (.invokevirtual 209, 3) := by decide +kernel
theorem dX0_markGoing_88 : decode cX0_markGoing 88 = .ok (.istore 9, 2) := by decide +kernel
theorem dX0_markGoing_90 : decode cX0_markGoing 90 = .ok (.aload_n 0, 1) := by decide +kernel
theorem dX0_markGoing_91 : decode cX0_markGoing 91 = .ok (.aload_n 1, 1) := by decide +kernel
theorem dX0_markGoing_92 : decode cX0_markGoing 92 = .ok (.iload 9, 2) := by decide +kernel
theorem dX0_markGoing_94 : decode cX0_markGoing 94 = .ok (.iload 5, 2) := by decide +kernel
theorem dX0_markGoing_96 : decode cX0_markGoing 96 = .ok (.invokevirtual 185, 3) := by decide +kernel
theorem dX0_markGoing_99 : decode cX0_markGoing 99 = .ok (.iload 4, 2) := by decide +kernel
theorem dX0_markGoing_101 : decode cX0_markGoing 101 = .ok (.iconst (-1), 1) := by decide +kernel
theorem dX0_markGoing_102 : decode cX0_markGoing 102 = .ok (.ixor, 1) := by decide +kernel
theorem dX0_markGoing_103 : decode cX0_markGoing 103 = .ok (.iand, 1) := by decide +kernel
theorem dX0_markGoing_104 : decode cX0_markGoing 104 = .ok (.istore 10, 2) := by decide +kernel
theorem dX0_markGoing_106 : decode cX0_markGoing 106 = .ok (.aload_n 0, 1) := by decide +kernel
theorem dX0_markGoing_107 : decode cX0_markGoing 107 = .ok (.iload_n 2, 1) := by decide +kernel
theorem dX0_markGoing_108 : decode cX0_markGoing 108 = .ok (.iload 9, 2) := by decide +kernel
theorem dX0_markGoing_110 : decode cX0_markGoing 110 = .ok (.iadd, 1) := by decide +kernel
theorem dX0_markGoing_111 : decode cX0_markGoing 111 = .ok (.iload_n 3, 1) := by decide +kernel
theorem dX0_markGoing_112 : decode cX0_markGoing 112 = .ok (.isub, 1) := by decide +kernel
theorem dX0_markGoing_113 : decode cX0_markGoing 113 = .ok (.iload 10, 2) := by decide +kernel
theorem dX0_markGoing_115 : decode cX0_markGoing 115 = .ok (.aload_n 0, 1) := by decide +kernel
theorem dX0_markGoing_116 : decode cX0_markGoing 116 = .ok (.getfield 46, 3) := by decide +kernel
theorem dX0_markGoing_119 : decode cX0_markGoing 119 = .ok (.imul, 1) := by decide +kernel
theorem dX0_markGoing_120 : decode cX0_markGoing 120 = .ok (.iadd, 1) := by decide +kernel
theorem dX0_markGoing_121 : decode cX0_markGoing 121 = .ok (.invokevirtual 189, 3) := by decide +kernel
theorem dX0_markGoing_124 : decode cX0_markGoing 124 = .ok (.iinc 8 1, 3) := by decide +kernel
theorem dX0_markGoing_127 : decode cX0_markGoing 127 = .ok (.goto (-71), 3) := by decide +kernel
theorem dX0_markGoing_130 : decode cX0_markGoing 130 = .ok (.return_, 1) := by decide +kernel
theorem dX0_markOpening_0 : decode cX0_markOpening 0 = .ok (.iconst 0, 1) := by decide +kernel
theorem dX0_markOpening_1 : decode cX0_markOpening 1 = .ok (.istore 5, 2) := by decide +kernel
theorem dX0_markOpening_3 : decode cX0_markOpening 3 = .ok (.iload 5, 2) := by decide +kernel
theorem dX0_markOpening_5 : decode cX0_markOpening 5 = .ok (.aload_n 1, 1) := by decide +kernel
theorem dX0_markOpening_6 : decode cX0_markOpening 6 = .ok (.getfield 73, 3) := by decide +kernel
theorem dX0_markOpening_9 : decode cX0_markOpening 9 = .ok (.iconst 2, 1) := by decide +kernel
theorem dX0_markOpening_10 : decode cX0_markOpening 10 = .ok (.iaload, 1) := by decide +kernel
theorem dX0_markOpening_11 : decode cX0_markOpening 11 = .ok (.if_icmp .ge 116, 3) := by decide +kernel
theorem dX0_markOpening_14 : decode cX0_markOpening 14 = .ok (.aload_n 0, 1) := by decide +kernel
theorem dX0_markOpening_15 : decode cX0_markOpening 15 = .ok (.getfield 20, 3) := by decide +kernel
theorem dX0_markOpening_18 : decode cX0_markOpening 18 = .ok (.iload 5, 2) := by decide +kernel
theorem dX0_markOpening_20 : decode cX0_markOpening 20 = .ok (.iaload, 1) := by decide +kernel
theorem dX0_markOpening_21 : decode cX0_markOpening 21 = .ok (.ifCond .le 100, 3) := by decide +kernel
theorem dX0_markOpening_24 : decode cX0_markOpening 24 = .ok (.aload_n 0, 1) := by decide +kernel
theorem dX0_markOpening_25 : decode cX0_markOpening 25 = .ok (.getfield 24, 3) := by decide +kernel
theorem dX0_markOpening_28 : decode cX0_markOpening 28 = .ok (.iload 5, 2) := by decide +kernel
theorem dX0_markOpening_30 : decode cX0_markOpening 30 = .ok (.iaload, 1) := by decide +kernel
theorem dX0_markOpening_31 : decode cX0_markOpening 31 = .ok (.ifCond .le 90, 3) := by decide +kernel
theorem dX0_markOpening_34 : decode cX0_markOpening 34 = .ok (.aload_n 1, 1) := by decide +kernel
theorem dX0_markOpening_35 : decode cX0_markOpening 35 = .ok (.aload_n 1, 1) := by decide +kernel
theorem dX0_markOpening_36 : decode cX0_markOpening 36 = .ok (.getfield 80, 3) := by decide +kernel
theorem dX0_markOpening_39 : decode cX0_markOpening 39 = .ok (.iload 5, 2) := by decide +kernel
theorem dX0_markOpening_41 : decode cX0_markOpening 41 = .ok (.aload_n 0, 1) := by decide +kernel
theorem dX0_markOpening_42 : decode cX0_markOpening 42 = .ok (.getfield 24, 3) := by decide +kernel
theorem dX0_markOpening_45 : decode cX0_markOpening 45 = .ok (.iload 5, 2) := by decide +kernel
theorem dX0_markOpening_47 : decode cX0_markOpening 47 = .ok (.iaload, 1) := by decide +kernel
theorem dX0_markOpening_48 : decode cX0_markOpening 48 = .ok (.iconst 1, 1) := by decide +kernel
theorem dX0_markOpening_49 : decode cX0_markOpening 49 = .ok (.isub, 1) := by decide +kernel
theorem dX0_markOpening_50 : decode cX0_markOpening 50 = .ok (.invokevirtual 212, 3) := by decide +kernel
theorem dX0_markOpening_53 : decode cX0_markOpening 53 = .ok (.iload_n 3, 1) := by decide +kernel
theorem dX0_markOpening_54 : decode cX0_markOpening 54 = .ok (.invokevirtual 159, 3) := by decide +kernel
theorem dX0_markOpening_57 : decode cX0_markOpening 57 = .ok (.ifCond .eq 64, 3) := by decide +kernel
theorem dX0_markOpening_60 : decode cX0_markOpening 60 = .ok (.aload_n 0, 1) := by decide +kernel
theorem dX0_markOpening_61 : decode cX0_markOpening 61 = .ok (.getfield 24, 3) := by decide +kernel
theorem dX0_markOpening_64 : decode cX0_markOpening 64 = .ok (.iload 5, 2) := by decide +kernel
theorem dX0_markOpening_66 : decode cX0_markOpening 66 = .ok (.dup2, 1) := by decide +kernel
theorem dX0_markOpening_67 : decode cX0_markOpening 67 = .ok (.iaload, 1) := by decide +kernel
theorem dX0_markOpening_68 : decode cX0_markOpening 68 = .ok (.iconst 1, 1) := by decide +kernel
theorem dX0_markOpening_69 : decode cX0_markOpening 69 = .ok (.isub, 1) := by decide +kernel
theorem dX0_markOpening_70 : decode cX0_markOpening 70 = .ok (.iastore, 1) := by decide +kernel
theorem dX0_markOpening_71 : decode cX0_markOpening 71 = .ok (.aload_n 0, 1) := by decide +kernel
theorem dX0_markOpening_72 : decode cX0_markOpening 72 = .ok (.aload_n 1, 1) := by decide +kernel
theorem dX0_markOpening_73 : decode cX0_markOpening 73 = .ok (.iload_n 3, 1) := by decide +kernel
theorem dX0_markOpening_74 : decode cX0_markOpening 74 = .ok (.aload_n 0, 1) := by decide +kernel
theorem dX0_markOpening_75 : decode cX0_markOpening 75 = .ok (.aload_n 1, 1) := by decide +kernel
theorem dX0_markOpening_76 : decode cX0_markOpening 76 = .ok (.invokevirtual 181, 3) := by decide +kernel
theorem dX0_markOpening_79 : decode cX0_markOpening 79 = .ok (.invokevirtual 185, 3) := by decide +kernel
theorem dX0_markOpening_82 : decode cX0_markOpening 82 = .ok (.iload 4, 2) := by decide +kernel
theorem dX0_markOpening_84 : decode cX0_markOpening 84 = .ok (.iconst (-1), 1) := by decide +kernel
theorem dX0_markOpening_85 : decode cX0_markOpening 85 = .ok (.ixor, 1) := by decide +kernel
theorem dX0_markOpening_86 : decode cX0_markOpening 86 = .ok (.iand, 1) := by decide +kernel
theorem dX0_markOpening_87 : decode cX0_markOpening 87 = .ok (.istore 6, 2) := by decide +kernel
theorem dX0_markOpening_89 : decode cX0_markOpening 89 = .ok (.aload_n 0, 1) := by decide +kernel
theorem dX0_markOpening_90 : decode cX0_markOpening 90 = .ok (.getfield 24, 3) := by decide +kernel
theorem dX0_markOpening_93 : decode cX0_markOpening 93 = .ok (.iload 5, 2) := by decide +kernel
theorem dX0_markOpening_95 : decode cX0_markOpening 95 = .ok (.dup2, 1) := by decide +kernel
theorem dX0_markOpening_96 : decode cX0_markOpening 96 = .ok (.iaload, 1) := by decide +kernel
theorem dX0_markOpening_97 : decode cX0_markOpening 97 = .ok (.iconst 1, 1) := by decide +kernel
theorem dX0_markOpening_98 : decode cX0_markOpening 98 = .ok (.iadd, 1) := by decide +kernel
theorem dX0_markOpening_99 : decode cX0_markOpening 99 = .ok (.iastore, 1) := by decide +kernel
theorem dX0_markOpening_100 : decode cX0_markOpening 100 = .ok (.aload_n 0, 1) := by decide +kernel
theorem dX0_markOpening_101 : decode cX0_markOpening 101 = .ok (.iload_n 2, 1) := by decide +kernel
theorem dX0_markOpening_102 : decode cX0_markOpening 102 = .ok (.aload_n 0, 1) := by decide +kernel
theorem dX0_markOpening_103 : decode cX0_markOpening 103 = .ok (.getfield 20, 3) := by decide +kernel
theorem dX0_markOpening_106 : decode cX0_markOpening 106 = .ok (.iload 5, 2) := by decide +kernel
theorem dX0_markOpening_108 : decode cX0_markOpening 108 = .ok (.iaload, 1) := by decide +kernel
theorem dX0_markOpening_109 : decode cX0_markOpening 109 = .ok (.isub, 1) := by decide +kernel
theorem dX0_markOpening_110 : decode cX0_markOpening 110 = .ok (.iload 6, 2) := by decide +kernel
theorem dX0_markOpening_112 : decode cX0_markOpening 112 = .ok (.aload_n 0, 1) := by decide +kernel
theorem dX0_markOpening_113 : decode cX0_markOpening 113 = .ok (.getfield 46, 3) := by decide +kernel
theorem dX0_markOpening_116 : decode cX0_markOpening 116 = .ok (.imul, 1) := by decide +kernel
theorem dX0_markOpening_117 : decode cX0_markOpening 117 = .ok (.iadd, 1) := by decide +kernel
theorem dX0_markOpening_118 : decode cX0_markOpening 118 = .ok (.invokevirtual 189, 3) := by decide +kernel
theorem dX0_markOpening_121 : decode cX0_markOpening 121 = .ok (.iinc 5 1, 3) := by decide +kernel
theorem dX0_markOpening_124 : decode cX0_markOpening 124 = .ok (.goto (-121), 3) := by decide +kernel
theorem dX0_markOpening_127 : decode cX0_markOpening 127 = .ok (.return_, 1) := by decide +kernel
theorem dX0_mark_0 : decode cX0_mark 0 = .ok (.iload_n 1, 1) := by decide +kernel
theorem dX0_mark_1 : decode cX0_mark 1 = .ok (.ifCond .lt 11, 3) := by decide +kernel
theorem dX0_mark_4 : decode cX0_mark 4 = .ok (.iload_n 1, 1) := by decide +kernel
theorem dX0_mark_5 : decode cX0_mark 5 = .ok (.aload_n 0, 1) := by decide +kernel
theorem dX0_mark_6 : decode cX0_mark 6 = .ok (.getfield 49, 3) := by decide +kernel
theorem dX0_mark_9 : decode cX0_mark 9 = .ok (.if_icmp .lt 4, 3) := by decide +kernel
theorem dX0_mark_12 : decode cX0_mark 12 = .ok (.return_, 1) := by decide +kernel
theorem dX0_mark_13 : decode cX0_mark 13 = .ok (.iload_n 1, 1) := by decide +kernel
theorem dX0_mark_14 : decode cX0_mark 14 = .ok (.bipush 64, 2) := by decide +kernel
theorem dX0_mark_16 : decode cX0_mark 16 = .ok (.idiv, 1) := by decide +kernel
theorem dX0_mark_17 : decode cX0_mark 17 = .ok (.istore_n 2, 1) := by decide +kernel
theorem dX0_mark_18 : decode cX0_mark 18 = .ok (.lconst 1, 1) := by decide +kernel
theorem dX0_mark_19 : decode cX0_mark 19 = .ok (.iload_n 1, 1) := by decide +kernel
theorem dX0_mark_20 : decode cX0_mark 20 = .ok (.bipush 64, 2) := by decide +kernel
theorem dX0_mark_22 : decode cX0_mark 22 = .ok (.irem, 1) := by decide +kernel
theorem dX0_mark_23 : decode cX0_mark 23 = .ok (.lshl, 1) := by decide +kernel
theorem dX0_mark_24 : decode cX0_mark 24 = .ok (.lstore_n 3, 1) := by decide +kernel
theorem dX0_mark_25 : decode cX0_mark 25 = .ok (.aload_n 0, 1) := by decide +kernel
theorem dX0_mark_26 : decode cX0_mark 26 = .ok (.getfield 11, 3) := by decide +kernel
theorem dX0_mark_29 : decode cX0_mark 29 = .ok (.iload_n 2, 1) := by decide +kernel
theorem dX0_mark_30 : decode cX0_mark 30 = .ok (.laload, 1) := by decide +kernel
theorem dX0_mark_31 : decode cX0_mark 31 = .ok (.lload_n 3, 1) := by decide +kernel
theorem dX0_mark_32 : decode cX0_mark 32 = .ok (.land, 1) := by decide +kernel
theorem dX0_mark_33 : decode cX0_mark 33 = .ok (.lconst 0, 1) := by decide +kernel
theorem dX0_mark_34 : decode cX0_mark 34 = .ok (.lcmp, 1) := by decide +kernel
theorem dX0_mark_35 : decode cX0_mark 35 = .ok (.ifCond .ne 23, 3) := by decide +kernel
theorem dX0_mark_38 : decode cX0_mark 38 = .ok (.aload_n 0, 1) := by decide +kernel
theorem dX0_mark_39 : decode cX0_mark 39 = .ok (.getfield 11, 3) := by decide +kernel
theorem dX0_mark_42 : decode cX0_mark 42 = .ok (.iload_n 2, 1) := by decide +kernel
theorem dX0_mark_43 : decode cX0_mark 43 = .ok (.dup2, 1) := by decide +kernel
theorem dX0_mark_44 : decode cX0_mark 44 = .ok (.laload, 1) := by decide +kernel
theorem dX0_mark_45 : decode cX0_mark 45 = .ok (.lload_n 3, 1) := by decide +kernel
theorem dX0_mark_46 : decode cX0_mark 46 = .ok (.lor, 1) := by decide +kernel
theorem dX0_mark_47 : decode cX0_mark 47 = .ok (.lastore, 1) := by decide +kernel
theorem dX0_mark_48 : decode cX0_mark 48 = .ok (.aload_n 0, 1) := by decide +kernel
theorem dX0_mark_49 : decode cX0_mark 49 = .ok (.getfield 39, 3) := by decide +kernel
theorem dX0_mark_52 : decode cX0_mark 52 = .ok (.iload_n 2, 1) := by decide +kernel
theorem dX0_mark_53 : decode cX0_mark 53 = .ok (.dup2, 1) := by decide +kernel
theorem dX0_mark_54 : decode cX0_mark 54 = .ok (.laload, 1) := by decide +kernel
theorem dX0_mark_55 : decode cX0_mark 55 = .ok (.lload_n 3, 1) := by decide +kernel
theorem dX0_mark_56 : decode cX0_mark 56 = .ok (.lor, 1) := by decide +kernel
theorem dX0_mark_57 : decode cX0_mark 57 = .ok (.lastore, 1) := by decide +kernel
theorem dX0_mark_58 : decode cX0_mark 58 = .ok (.return_, 1) := by decide +kernel
theorem dX9_otherSide_0 : decode cX9_otherSide 0 = .ok (.aload_n 0, 1) := by decide +kernel
theorem dX9_otherSide_1 : decode cX9_otherSide 1 = .ok (.iconst 1, 1) := by decide +kernel
theorem dX9_otherSide_2 : decode cX9_otherSide 2 = .ok (.iload_n 1, 1) := by decide +kernel
theorem dX9_otherSide_3 : decode cX9_otherSide 3 = .ok (.invokevirtual 90, 3) := by decide +kernel
theorem dX9_otherSide_6 : decode cX9_otherSide 6 = .ok (.ifCond .ne 5, 3) := by decide +kernel
theorem dX9_otherSide_9 : decode cX9_otherSide 9 = .ok (.iconst (-1), 1) := by decide +kernel
theorem dX9_otherSide_10 : decode cX9_otherSide 10 = .ok (.ireturn, 1) := by decide +kernel
theorem dX9_otherSide_11 : decode cX9_otherSide 11 = .ok (.aload_n 0, 1) := by decide +kernel
theorem dX9_otherSide_12 : decode cX9_otherSide 12 = .ok (.getfield 20, 3) := by decide +kernel
theorem dX9_otherSide_15 : decode cX9_otherSide 15 = .ok (.iload_n 1, 1) := by decide +kernel
theorem dX9_otherSide_16 : decode cX9_otherSide 16 = .ok (.iaload, 1) := by decide +kernel
theorem dX9_otherSide_17 : decode cX9_otherSide 17 = .ok (.iload_n 2, 1) := by decide +kernel
theorem dX9_otherSide_18 : decode cX9_otherSide 18 = .ok (.if_icmp .ne 12, 3) := by decide +kernel
theorem dX9_otherSide_21 : decode cX9_otherSide 21 = .ok (.aload_n 0, 1) := by decide +kernel
theorem dX9_otherSide_22 : decode cX9_otherSide 22 = .ok (.getfield 23, 3) := by decide +kernel
theorem dX9_otherSide_25 : decode cX9_otherSide 25 = .ok (.iload_n 1, 1) := by decide +kernel
theorem dX9_otherSide_26 : decode cX9_otherSide 26 = .ok (.iaload, 1) := by decide +kernel
theorem dX9_otherSide_27 : decode cX9_otherSide 27 = .ok (.goto 9, 3) := by decide +kernel
theorem dX9_otherSide_30 : decode cX9_otherSide 30 = .ok (.aload_n 0, 1) := by decide +kernel
theorem dX9_otherSide_31 : decode cX9_otherSide 31 = .ok (.getfield 20, 3) := by decide +kernel
theorem dX9_otherSide_34 : decode cX9_otherSide 34 = .ok (.iload_n 1, 1) := by decide +kernel
theorem dX9_otherSide_35 : decode cX9_otherSide 35 = .ok (.iaload, 1) := by decide +kernel
theorem dX9_otherSide_36 : decode cX9_otherSide 36 = .ok (.ireturn, 1) := by decide +kernel
