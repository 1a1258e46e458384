theorem dX0_prepareBars_0 : decode cX0_prepareBars 0 = .ok (.iconst 0, 1) := by decide +kernel
theorem dX0_prepareBars_1 : decode cX0_prepareBars 1 = .ok (.istore 4, 2) := by decide +kernel
theorem dX0_prepareBars_3 : decode cX0_prepareBars 3 = .ok (.iload 4, 2) := by decide +kernel
theorem dX0_prepareBars_5 : decode cX0_prepareBars 5 = .ok (.bipush 88, 2) := by decide +kernel
theorem dX0_prepareBars_7 : decode cX0_prepareBars 7 = .ok (.if_icmp .ge 17, 3) := by decide +kernel
theorem dX0_prepareBars_10 : decode cX0_prepareBars 10 = .ok (.aload_n 0, 1) := by decide +kernel
theorem dX0_prepareBars_11 : decode cX0_prepareBars 11 = .ok (.getfield 30, 3) := by decide +kernel
theorem dX0_prepareBars_14 : decode cX0_prepareBars 14 = .ok (.iload 4, 2) := by decide +kernel
theorem dX0_prepareBars_16 : decode cX0_prepareBars 16 = .ok (.iconst 0, 1) := by decide +kernel
theorem dX0_prepareBars_17 : decode cX0_prepareBars 17 = .ok (.iastore, 1) := by decide +kernel
theorem dX0_prepareBars_18 : decode cX0_prepareBars 18 = .ok (.iinc 4 1, 3) := by decide +kernel
theorem dX0_prepareBars_21 : decode cX0_prepareBars 21 = .ok (.goto (-18), 3) := by decide +kernel
theorem dX0_prepareBars_24 : decode cX0_prepareBars 24 = .ok (.iconst 0, 1) := by decide +kernel
theorem dX0_prepareBars_25 : decode cX0_prepareBars 25 = .ok (.istore 4, 2) := by decide +kernel
theorem dX0_prepareBars_27 : decode cX0_prepareBars 27 = .ok (.iload 4, 2) := by decide +kernel
theorem dX0_prepareBars_29 : decode cX0_prepareBars 29 = .ok (.aload_n 1, 1) := by decide +kernel
theorem dX0_prepareBars_30 : decode cX0_prepareBars 30 = .ok (.getfield 73, 3) := by decide +kernel
theorem dX0_prepareBars_33 : decode cX0_prepareBars 33 = .ok (.bipush 7, 2) := by decide +kernel
theorem dX0_prepareBars_35 : decode cX0_prepareBars 35 = .ok (.iaload, 1) := by decide +kernel
theorem dX0_prepareBars_36 : decode cX0_prepareBars 36 = .ok (.if_icmp .ge 99, 3) := by decide +kernel
theorem dX0_prepareBars_39 : decode cX0_prepareBars 39 = .ok (.aload_n 1, 1) := by decide +kernel
theorem dX0_prepareBars_40 : decode cX0_prepareBars 40 = .ok (.getfield 162, 3) := by decide +kernel
theorem dX0_prepareBars_43 : decode cX0_prepareBars 43 = .ok (.iload 4, 2) := by decide +kernel
theorem dX0_prepareBars_45 : decode cX0_prepareBars 45 = .ok (.iaload, 1) := by decide +kernel
theorem dX0_prepareBars_46 : decode cX0_prepareBars 46 = .ok (.istore 5, 2) := by decide +kernel
theorem dX0_prepareBars_48 : decode cX0_prepareBars 48 = .ok (.iconst 0, 1) := by decide +kernel
theorem dX0_prepareBars_49 : decode cX0_prepareBars 49 = .ok (.istore 6, 2) := by decide +kernel
theorem dX0_prepareBars_51 : decode cX0_prepareBars 51 = .ok (.iload 6, 2) := by decide +kernel
theorem dX0_prepareBars_53 : decode cX0_prepareBars 53 = .ok (.bipush 88, 2) := by decide +kernel
theorem dX0_prepareBars_55 : decode cX0_prepareBars 55 = .ok (.if_icmp .ge 74, 3) := by decide +kernel
theorem dX0_prepareBars_58 : decode cX0_prepareBars 58 = .ok (.iload 6, 2) := by decide +kernel
theorem dX0_prepareBars_60 : decode cX0_prepareBars 60 = .ok (.bipush 11, 2) := by decide +kernel
theorem dX0_prepareBars_62 : decode cX0_prepareBars 62 = .ok (.idiv, 1) := by decide +kernel
theorem dX0_prepareBars_63 : decode cX0_prepareBars 63 = .ok (.istore 7, 2) := by decide +kernel
theorem dX0_prepareBars_65 : decode cX0_prepareBars 65 = .ok (.aload_n 1, 1) := by decide +kernel
theorem dX0_prepareBars_66 : decode cX0_prepareBars 66 = .ok (.iload 5, 2) := by decide +kernel
theorem dX0_prepareBars_68 : decode cX0_prepareBars 68 = .ok (.iload 7, 2) := by decide +kernel
theorem dX0_prepareBars_70 : decode cX0_prepareBars 70 = .ok (.invokevirtual 159, 3) := by decide +kernel
theorem dX0_prepareBars_73 : decode cX0_prepareBars 73 = .ok (.ifCond .eq 50, 3) := by decide +kernel
theorem dX0_prepareBars_76 : decode cX0_prepareBars 76 = .ok (.aload_n 1, 1) := by decide +kernel
theorem dX0_prepareBars_77 : decode cX0_prepareBars 77 = .ok (.getfield 165, 3) := by decide +kernel
theorem dX0_prepareBars_80 : decode cX0_prepareBars 80 = .ok (.aload_n 1, 1) := by decide +kernel
theorem dX0_prepareBars_81 : decode cX0_prepareBars 81 = .ok (.getfield 169, 3) := by decide +kernel
theorem dX0_prepareBars_84 : decode cX0_prepareBars 84 = .ok (.iload 4, 2) := by decide +kernel
theorem dX0_prepareBars_86 : decode cX0_prepareBars 86 = .ok (.iaload, 1) := by decide +kernel
theorem dX0_prepareBars_87 : decode cX0_prepareBars 87 = .ok (.aload_n 1, 1) := by decide +kernel
theorem dX0_prepareBars_88 : decode cX0_prepareBars 88 = .ok (.getfield 172, 3) := by decide +kernel
theorem dX0_prepareBars_91 : decode cX0_prepareBars 91 = .ok (.iload 4, 2) := by decide +kernel
theorem dX0_prepareBars_93 : decode cX0_prepareBars 93 = .ok (.iaload, 1) := by decide +kernel
theorem dX0_prepareBars_94 : decode cX0_prepareBars 94 = .ok (.iload_n 2, 1) := by decide +kernel
theorem dX0_prepareBars_95 : decode cX0_prepareBars 95 = .ok (.iload 7, 2) := by decide +kernel
theorem dX0_prepareBars_97 : decode cX0_prepareBars 97 = .ok (.iload_n 3, 1) := by decide +kernel
theorem dX0_prepareBars_98 : decode cX0_prepareBars 98 = .ok (.iload 6, 2) := by decide +kernel
theorem dX0_prepareBars_100 : decode cX0_prepareBars 100 = .ok (.bipush 11, 2) := by decide +kernel
theorem dX0_prepareBars_102 : decode cX0_prepareBars 102 = .ok (.irem, 1) := by decide +kernel
theorem dX0_prepareBars_103 : decode cX0_prepareBars 103 = .ok (.invokevirtual 175, 3) := by decide +kernel
theorem dX0_prepareBars_106 : decode cX0_prepareBars 106 = .ok (.ifCond .eq 17, 3) := by decide +kernel
theorem dX0_prepareBars_109 : decode cX0_prepareBars 109 = .ok (.aload_n 0, 1) := by decide +kernel
theorem dX0_prepareBars_110 : decode cX0_prepareBars 110 = .ok (.getfield 30, 3) := by decide +kernel
theorem dX0_prepareBars_113 : decode cX0_prepareBars 113 = .ok (.iload 6, 2) := by decide +kernel
theorem dX0_prepareBars_115 : decode cX0_prepareBars 115 = .ok (.dup2, 1) := by decide +kernel
theorem dX0_prepareBars_116 : decode cX0_prepareBars 116 = .ok (.iaload, 1) := by decide +kernel
theorem dX0_prepareBars_117 : decode cX0_prepareBars 117 = .ok (.iconst 1, 1) := by decide +kernel
theorem dX0_prepareBars_118 : decode cX0_prepareBars 118 = .ok (.iload 5, 2) := by decide +kernel
theorem dX0_prepareBars_120 : decode cX0_prepareBars 120 = .ok (.ishl, 1) := by decide +kernel
theorem dX0_prepareBars_121 : decode cX0_prepareBars 121 = .ok (.ior, 1) := by decide +kernel
theorem dX0_prepareBars_122 : decode cX0_prepareBars 122 = .ok (.iastore, 1) := by decide +kernel
theorem dX0_prepareBars_123 : decode cX0_prepareBars 123 = .ok (.iinc 6 1, 3) := by decide +kernel
theorem dX0_prepareBars_126 : decode cX0_prepareBars 126 = .ok (.goto (-75), 3) := by decide +kernel
theorem dX0_prepareBars_129 : decode cX0_prepareBars 129 = .ok (.iinc 4 1, 3) := by decide +kernel
theorem dX0_prepareBars_132 : decode cX0_prepareBars 132 = .ok (.goto (-105), 3) := by decide +kernel
theorem dX0_prepareBars_135 : decode cX0_prepareBars 135 = .ok (.return_, 1) := by decide +kernel
theorem dX0_clearSets_0 : decode cX0_clearSets 0 = .ok (.iconst 0, 1) := by decide +kernel
theorem dX0_clearSets_1 : decode cX0_clearSets 1 = .ok (.istore_n 1, 1) := by decide +kernel
theorem dX0_clearSets_2 : decode cX0_clearSets 2 = .ok (.iload_n 1, 1) := by decide +kernel
theorem dX0_clearSets_3 : decode cX0_clearSets 3 = .ok (.sipush 1201, 3) := by decide +kernel
theorem dX0_clearSets_6 : decode cX0_clearSets 6 = .ok (.if_icmp .ge 34, 3) := by decide +kernel
theorem dX0_clearSets_9 : decode cX0_clearSets 9 = .ok (.iload_n 1, 1) := by decide +kernel
theorem dX0_clearSets_10 : decode cX0_clearSets 10 = .ok (.bipush 64, 2) := by decide +kernel
theorem dX0_clearSets_12 : decode cX0_clearSets 12 = .ok (.imul, 1) := by decide +kernel
theorem dX0_clearSets_13 : decode cX0_clearSets 13 = .ok (.aload_n 0, 1) := by decide +kernel
theorem dX0_clearSets_14 : decode cX0_clearSets 14 = .ok (.getfield 49, 3) := by decide +kernel
theorem dX0_clearSets_17 : decode cX0_clearSets 17 = .ok (.if_icmp .ge 23, 3) := by decide +kernel
theorem dX0_clearSets_20 : decode cX0_clearSets 20 = .ok (.aload_n 0, 1) := by decide +kernel
theorem dX0_clearSets_21 : decode cX0_clearSets 21 = .ok (.getfield 11, 3) := by decide +kernel
theorem dX0_clearSets_24 : decode cX0_clearSets 24 = .ok (.iload_n 1, 1) := by decide +kernel
theorem dX0_clearSets_25 : decode cX0_clearSets 25 = .ok (.lconst 0, 1) := by decide +kernel
theorem dX0_clearSets_26 : decode cX0_clearSets 26 = .ok (.lastore, 1) := by decide +kernel
theorem dX0_clearSets_27 : decode cX0_clearSets 27 = .ok (.aload_n 0, 1) := by decide +kernel
theorem dX0_clearSets_28 : decode cX0_clearSets 28 = .ok (.getfield 39, 3) := by decide +kernel
theorem dX0_clearSets_31 : decode cX0_clearSets 31 = .ok (.iload_n 1, 1) := by decide +kernel
theorem dX0_clearSets_32 : decode cX0_clearSets 32 = .ok (.lconst 0, 1) := by decide +kernel
theorem dX0_clearSets_33 : decode cX0_clearSets 33 = .ok (.lastore, 1) := by decide +kernel
theorem dX0_clearSets_34 : decode cX0_clearSets 34 = .ok (.iinc 1 1, 3) := by decide +kernel
theorem dX0_clearSets_37 : decode cX0_clearSets 37 = .ok (.goto (-35), 3) := by decide +kernel
theorem dX0_clearSets_40 : decode cX0_clearSets 40 = .ok (.return_, 1) := by decide +kernel
theorem dX0_shutNow_0 : decode cX0_shutNow 0 = .ok (.aload_n 0, 1) := by decide +kernel
theorem dX0_shutNow_1 : decode cX0_shutNow 1 = .ok (.getfield 52, 3) := by decide +kernel
theorem dX0_shutNow_4 : decode cX0_shutNow 4 = .ok (.istore_n 2, 1) := by decide +kernel
theorem dX0_shutNow_5 : decode cX0_shutNow 5 = .ok (.iconst 0, 1) := by decide +kernel
theorem dX0_shutNow_6 : decode cX0_shutNow 6 = .ok (.istore_n 3, 1) := by decide +kernel
theorem dX0_shutNow_7 : decode cX0_shutNow 7 = .ok (.iload_n 3, 1) := by decide +kernel
theorem dX0_shutNow_8 : decode cX0_shutNow 8 = .ok (.aload_n 1, 1) := by decide +kernel
theorem dX0_shutNow_9 : decode cX0_shutNow 9 = .ok (.getfield 73, 3) := by decide +kernel
theorem dX0_shutNow_12 : decode cX0_shutNow 12 = .ok (.iconst 2, 1) := by decide +kernel
theorem dX0_shutNow_13 : decode cX0_shutNow 13 = .ok (.iaload, 1) := by decide +kernel
theorem dX0_shutNow_14 : decode cX0_shutNow 14 = .ok (.if_icmp .ge 59, 3) := by decide +kernel
theorem dX0_shutNow_17 : decode cX0_shutNow 17 = .ok (.iload_n 3, 1) := by decide +kernel
theorem dX0_shutNow_18 : decode cX0_shutNow 18 = .ok (.iconst 4, 1) := by decide +kernel
theorem dX0_shutNow_19 : decode cX0_shutNow 19 = .ok (.if_icmp .ge 54, 3) := by decide +kernel
theorem dX0_shutNow_22 : decode cX0_shutNow 22 = .ok (.aload_n 0, 1) := by decide +kernel
theorem dX0_shutNow_23 : decode cX0_shutNow 23 = .ok (.getfield 20, 3) := by decide +kernel
theorem dX0_shutNow_26 : decode cX0_shutNow 26 = .ok (.iload_n 3, 1) := by decide +kernel
theorem dX0_shutNow_27 : decode cX0_shutNow 27 = .ok (.iaload, 1) := by decide +kernel
theorem dX0_shutNow_28 : decode cX0_shutNow 28 = .ok (.ifCond .le 39, 3) := by decide +kernel
theorem dX0_shutNow_31 : decode cX0_shutNow 31 = .ok (.aload_n 0, 1) := by decide +kernel
theorem dX0_shutNow_32 : decode cX0_shutNow 32 = .ok (.getfield 24, 3) := by decide +kernel
theorem dX0_shutNow_35 : decode cX0_shutNow 35 = .ok (.iload_n 3, 1) := by decide +kernel
theorem dX0_shutNow_36 : decode cX0_shutNow 36 = .ok (.iaload, 1) := by decide +kernel
theorem dX0_shutNow_37 : decode cX0_shutNow 37 = .ok (.ifCond .lt 30, 3) := by decide +kernel
theorem dX0_shutNow_40 : decode cX0_shutNow 40 = .ok (.aload_n 0, 1) := by decide +kernel
theorem dX0_shutNow_41 : decode cX0_shutNow 41 = .ok (.getfield 24, 3) := by decide +kernel
theorem dX0_shutNow_44 : decode cX0_shutNow 44 = .ok (.iload_n 3, 1) := by decide +kernel
theorem dX0_shutNow_45 : decode cX0_shutNow 45 = .ok (.iaload, 1) := by decide +kernel
theorem dX0_shutNow_46 : decode cX0_shutNow 46 = .ok (.bipush 6, 2) := by decide +kernel
theorem dX0_shutNow_48 : decode cX0_shutNow 48 = .ok (.if_icmp .gt 19, 3) := by decide +kernel
theorem dX0_shutNow_51 : decode cX0_shutNow 51 = .ok (.iload_n 2, 1) := by decide +kernel
theorem dX0_shutNow_52 : decode cX0_shutNow 52 = .ok (.aload_n 0, 1) := by decide +kernel
theorem dX0_shutNow_53 : decode cX0_shutNow 53 = .ok (.getfield 17, 3) := by decide +kernel
theorem dX0_shutNow_56 : decode cX0_shutNow 56 = .ok (.iload_n 3, 1) := by decide +kernel
theorem dX0_shutNow_57 : decode cX0_shutNow 57 = .ok (.aaload, 1) := by decide +kernel
theorem dX0_shutNow_58 : decode cX0_shutNow 58 = .ok (.aload_n 0, 1) := by decide +kernel
theorem dX0_shutNow_59 : decode cX0_shutNow 59 = .ok (.getfield 24, 3) := by decide +kernel
theorem dX0_shutNow_62 : decode cX0_shutNow 62 = .ok (.iload_n 3, 1) := by decide +kernel
theorem dX0_shutNow_63 : decode cX0_shutNow 63 = .ok (.iaload, 1) := by decide +kernel
theorem dX0_shutNow_64 : decode cX0_shutNow 64 = .ok (.iaload, 1) := by decide +kernel
theorem dX0_shutNow_65 : decode cX0_shutNow 65 = .ok (.ior, 1) := by decide +kernel
theorem dX0_shutNow_66 : decode cX0_shutNow 66 = .ok (.istore_n 2, 1) := by decide +kernel
theorem dX0_shutNow_67 : decode cX0_shutNow 67 = .ok (.iinc 3 1, 3) := by decide +kernel
theorem dX0_shutNow_70 : decode cX0_shutNow 70 = .ok (.goto (-63), 3) := by decide +kernel
theorem dX0_shutNow_73 : decode cX0_shutNow 73 = .ok (.iload_n 2, 1) := by decide +kernel
theorem dX0_shutNow_74 : decode cX0_shutNow 74 = .ok (.ireturn, 1) := by decide +kernel
theorem dX0_hadAt_0 : decode cX0_hadAt 0 = .ok (.iconst 0, 1) := by decide +kernel
theorem dX0_hadAt_1 : decode cX0_hadAt 1 = .ok (.istore 4, 2) := by decide +kernel
theorem dX0_hadAt_3 : decode cX0_hadAt 3 = .ok (.iconst 0, 1) := by decide +kernel
theorem dX0_hadAt_4 : decode cX0_hadAt 4 = .ok (.istore 5, 2) := by decide +kernel
theorem dX0_hadAt_6 : decode cX0_hadAt 6 = .ok (.iload 5, 2) := by decide +kernel
theorem dX0_hadAt_8 : decode cX0_hadAt 8 = .ok (.aload_n 0, 1) := by decide +kernel
theorem dX0_hadAt_9 : decode cX0_hadAt 9 = .ok (.getfield 42, 3) := by decide +kernel
theorem dX0_hadAt_12 : decode cX0_hadAt 12 = .ok (.if_icmp .ge 74, 3) := by decide +kernel
theorem dX0_hadAt_15 : decode cX0_hadAt 15 = .ok (.iload 5, 2) := by decide +kernel
theorem dX0_hadAt_17 : decode cX0_hadAt 17 = .ok (.iconst 2, 1) := by decide +kernel
theorem dX0_hadAt_18 : decode cX0_hadAt 18 = .ok (.if_icmp .ge 68, 3) := by decide +kernel
theorem dX0_hadAt_21 : decode cX0_hadAt 21 = .ok (.aload_n 0, 1) := by decide +kernel
theorem dX0_hadAt_22 : decode cX0_hadAt 22 = .ok (.getfield 33, 3) := by decide +kernel
theorem dX0_hadAt_25 : decode cX0_hadAt 25 = .ok (.iload 5, 2) := by decide +kernel
theorem dX0_hadAt_27 : decode cX0_hadAt 27 = .ok (.iaload, 1) := by decide +kernel
theorem dX0_hadAt_28 : decode cX0_hadAt 28 = .ok (.bipush 20, 2) := by decide +kernel
theorem dX0_hadAt_30 : decode cX0_hadAt 30 = .ok (.isub, 1) := by decide +kernel
theorem dX0_hadAt_31 : decode cX0_hadAt 31 = .ok (.istore 6, 2) := by decide +kernel
theorem dX0_hadAt_33 : decode cX0_hadAt 33 = .ok (.aload_n 0, 1) := by decide +kernel
theorem dX0_hadAt_34 : decode cX0_hadAt 34 = .ok (.getfield 33, 3) := by decide +kernel
theorem dX0_hadAt_37 : decode cX0_hadAt 37 = .ok (.iload 5, 2) := by decide +kernel
theorem dX0_hadAt_39 : decode cX0_hadAt 39 = .ok (.iaload, 1) := by decide +kernel
theorem dX0_hadAt_40 : decode cX0_hadAt 40 = .ok (.bipush 10, 2) := by decide +kernel
theorem dX0_hadAt_42 : decode cX0_hadAt 42 = .ok (.iload_n 2, 1) := by decide +kernel
theorem dX0_hadAt_43 : decode cX0_hadAt 43 = .ok (.iadd, 1) := by decide +kernel
theorem dX0_hadAt_44 : decode cX0_hadAt 44 = .ok (.if_icmp .eq 27, 3) := by decide +kernel
theorem dX0_hadAt_47 : decode cX0_hadAt 47 = .ok (.iload 6, 2) := by decide +kernel
theorem dX0_hadAt_49 : decode cX0_hadAt 49 = .ok (.ifCond .lt 31, 3) := by decide +kernel
theorem dX0_hadAt_52 : decode cX0_hadAt 52 = .ok (.aload_n 1, 1) := by decide +kernel
theorem dX0_hadAt_53 : decode cX0_hadAt 53 = .ok (.iload 6, 2) := by decide +kernel
theorem dX0_hadAt_55 : decode cX0_hadAt 55 = .ok (.iload_n 2, 1) := by decide +kernel
theorem dX0_hadAt_56 : decode cX0_hadAt 56 = .ok (.invokevirtual 159, 3) := by decide +kernel
theorem dX0_hadAt_59 : decode cX0_hadAt 59 = .ok (.ifCond .eq 21, 3) := by decide +kernel
theorem dX0_hadAt_62 : decode cX0_hadAt 62 = .ok (.iload_n 3, 1) := by decide +kernel
theorem dX0_hadAt_63 : decode cX0_hadAt 63 = .ok (.iload 6, 2) := by decide +kernel
theorem dX0_hadAt_65 : decode cX0_hadAt 65 = .ok (.ishr, 1) := by decide +kernel
theorem dX0_hadAt_66 : decode cX0_hadAt 66 = .ok (.iconst 1, 1) := by decide +kernel
theorem dX0_hadAt_67 : decode cX0_hadAt 67 = .ok (.iand, 1) := by decide +kernel
theorem dX0_hadAt_68 : decode cX0_hadAt 68 = .ok (.ifCond .ne 12, 3) := by decide +kernel
theorem dX0_hadAt_71 : decode cX0_hadAt 71 = .ok (.iload 4, 2) := by decide +kernel
theorem dX0_hadAt_73 : decode cX0_hadAt 73 = .ok (.iconst 1, 1) := by decide +kernel
theorem dX0_hadAt_74 : decode cX0_hadAt 74 = .ok (.iload 5, 2) := by decide +kernel
theorem dX0_hadAt_76 : decode cX0_hadAt 76 = .ok (.ishl, 1) := by decide +kernel
theorem dX0_hadAt_77 : decode cX0_hadAt 77 = .ok (.ior, 1) := by decide +kernel
theorem dX0_hadAt_78 : decode cX0_hadAt 78 = .ok (.istore 4, 2) := by decide +kernel
theorem dX0_hadAt_80 : decode cX0_hadAt 80 = .ok (.iinc 5 1, 3) := by decide +kernel
theorem dX0_hadAt_83 : decode cX0_hadAt 83 = .ok (.goto (-77), 3) := by decide +kernel
theorem dX0_hadAt_86 : decode cX0_hadAt 86 = .ok (.iload 4, 2) := by decide +kernel
theorem dX0_hadAt_88 : decode cX0_hadAt 88 = .ok (.ireturn, 1) := by decide +kernel
theorem dX8_holds_0 : decode cX8_holds 0 = .ok (.iconst 0, 1) := by decide +kernel
theorem dX8_holds_1 : decode cX8_holds 1 = .ok (.istore 7, 2) := by decide +kernel
theorem dX8_holds_3 : decode cX8_holds 3 = .ok (.iload_n 1, 1) := by decide +kernel
theorem dX8_holds_4 : decode cX8_holds 4 = .ok (.iconst 0, 1) := by decide +kernel
theorem dX8_holds_5 : decode cX8_holds 5 = .ok (.invokestatic 22, 3) := by decide +kernel
theorem dX8_holds_8 : decode cX8_holds 8 = .ok (.istore 8, 2) := by decide +kernel
theorem dX8_holds_10 : decode cX8_holds 10 = .ok (.iload 8, 2) := by decide +kernel
theorem dX8_holds_12 : decode cX8_holds 12 = .ok (.iload_n 2, 1) := by decide +kernel
theorem dX8_holds_13 : decode cX8_holds 13 = .ok (.if_icmp .ge 155, 3) := by decide +kernel
theorem dX8_holds_16 : decode cX8_holds 16 = .ok (.iload 8, 2) := by decide +kernel
theorem dX8_holds_18 : decode cX8_holds 18 = .ok (.aload_n 0, 1) := by decide +kernel
theorem dX8_holds_19 : decode cX8_holds 19 = .ok (.getfield 18, 3) := by decide +kernel
theorem dX8_holds_22 : decode cX8_holds 22 = .ok (.if_icmp .ge 146, 3) := by decide +kernel
theorem dX8_holds_25 : decode cX8_holds 25 = .ok (.iload 8, 2) := by decide +kernel
theorem dX8_holds_27 : decode cX8_holds 27 = .ok (.sipush 1600, 3) := by decide +kernel
theorem dX8_holds_30 : decode cX8_holds 30 = .ok (.if_icmp .ge 138, 3) := by decide +kernel
theorem dX8_holds_33 : decode cX8_holds 33 = .ok (.aload_n 0, 1) := by decide +kernel
theorem dX8_holds_34 : decode cX8_holds 34 = .ok (.getfield 9, 3) := by decide +kernel
theorem dX8_holds_37 : decode cX8_holds 37 = .ok (.iload 8, 2) := by decide +kernel
theorem dX8_holds_39 : decode cX8_holds 39 = .ok (.iaload, 1) := by decide +kernel
theorem dX8_holds_40 : decode cX8_holds 40 = .ok (.istore 9, 2) := by decide +kernel
theorem dX8_holds_42 : decode cX8_holds 42 = .ok (.iload 9, 2) := by decide +kernel
theorem dX8_holds_44 : decode cX8_holds 44 = .ok (.bipush (-5), 2) := by decide +kernel
theorem dX8_holds_46 : decode cX8_holds 46 = .ok (.if_icmp .lt 37, 3) := by decide +kernel
theorem dX8_holds_49 : decode cX8_holds 49 = .ok (.iload 7, 2) := by decide +kernel
theorem dX8_holds_51 : decode cX8_holds 51 = .ok (.bipush 64, 2) := by decide +kernel
theorem dX8_holds_53 : decode cX8_holds 53 = .ok (.if_icmp .lt 5, 3) := by decide +kernel
theorem dX8_holds_56 : decode cX8_holds 56 = .ok (.iconst 0, 1) := by decide +kernel
theorem dX8_holds_57 : decode cX8_holds 57 = .ok (.ireturn, 1) := by decide +kernel
theorem dX8_holds_58 : decode cX8_holds 58 = .ok (.aload_n 0, 1) := by decide +kernel
theorem dX8_holds_59 : decode cX8_holds 59 = .ok (.getfield 15, 3) := by decide +kernel
theorem dX8_holds_62 : decode cX8_holds 62 = .ok (.iload 7, 2) := by decide +kernel
theorem dX8_holds_64 : decode cX8_holds 64 = .ok (.iload 9, 2) := by decide +kernel
theorem dX8_holds_66 : decode cX8_holds 66 = .ok (.iload_n 3, 1) := by decide +kernel
theorem dX8_holds_67 : decode cX8_holds 67 = .ok (.iload 4, 2) := by decide +kernel
theorem dX8_holds_69 : decode cX8_holds 69 = .ok (.iload 5, 2) := by decide +kernel
theorem dX8_holds_71 : decode cX8_holds 71 = .ok (.iload 6, 2) := by decide +kernel
theorem dX8_holds_73 : decode cX8_holds 73 = .ok (.invokestatic 28, 3) := by decide +kernel
theorem dX8_holds_76 : decode cX8_holds 76 = .ok (.iastore, 1) := by decide +kernel
theorem dX8_holds_77 : decode cX8_holds 77 = .ok (.iinc 7 1, 3) := by decide +kernel
theorem dX8_holds_80 : decode cX8_holds 80 = .ok (.goto 82, 3) := by decide +kernel
theorem dX8_holds_83 : decode cX8_holds 83 = .ok (.iload 9, 2) := by decide +kernel
theorem dX8_holds_85 : decode cX8_holds 85 = .ok (.bipush (-6), 2) := by decide +kernel
theorem dX8_holds_87 : decode cX8_holds 87 = .ok (.if_icmp .ne 34, 3) := by decide +kernel
theorem dX8_holds_90 : decode cX8_holds 90 = .ok (.iload 7, 2) := by decide +kernel
theorem dX8_holds_92 : decode cX8_holds 92 = .ok (.iconst 1, 1) := by decide +kernel
theorem dX8_holds_93 : decode cX8_holds 93 = .ok (.if_icmp .ge 5, 3) := by decide +kernel
theorem dX8_holds_96 : decode cX8_holds 96 = .ok (.iconst 0, 1) := by decide +kernel
theorem dX8_holds_97 : decode cX8_holds 97 = .ok (.ireturn, 1) := by decide +kernel
theorem dX8_holds_98 : decode cX8_holds 98 = .ok (.aload_n 0, 1) := by decide +kernel
theorem dX8_holds_99 : decode cX8_holds 99 = .ok (.getfield 15, 3) := by decide +kernel
theorem dX8_holds_102 : decode cX8_holds 102 = .ok (.iload 7, 2) := by decide +kernel
theorem dX8_holds_104 : decode cX8_holds 104 = .ok (.iconst 1, 1) := by decide +kernel
theorem dX8_holds_105 : decode cX8_holds 105 = .ok (.isub, 1) := by decide +kernel
theorem dX8_holds_106 : decode cX8_holds 106 = .ok (.iconst 1, 1) := by decide +kernel
theorem dX8_holds_107 : decode cX8_holds 107 = .ok (.aload_n 0, 1) := by decide +kernel
theorem dX8_holds_108 : decode cX8_holds 108 = .ok (.getfield 15, 3) := by decide +kernel
theorem dX8_holds_111 : decode cX8_holds 111 = .ok (.iload 7, 2) := by decide +kernel
theorem dX8_holds_113 : decode cX8_holds 113 = .ok (.iconst 1, 1) := by decide +kernel
theorem dX8_holds_114 : decode cX8_holds 114 = .ok (.isub, 1) := by decide +kernel
theorem dX8_holds_115 : decode cX8_holds 115 = .ok (.iaload, 1) := by decide +kernel
theorem dX8_holds_116 : decode cX8_holds 116 = .ok (.isub, 1) := by decide +kernel
theorem dX8_holds_117 : decode cX8_holds 117 = .ok (.iastore, 1) := by decide +kernel
theorem dX8_holds_118 : decode cX8_holds 118 = .ok (.goto 44, 3) := by decide +kernel
theorem dX8_holds_121 : decode cX8_holds 121 = .ok (.iload 7, 2) := by decide +kernel
theorem dX8_holds_123 : decode cX8_holds 123 = .ok (.iconst 2, 1) := by decide +kernel
theorem dX8_holds_124 : decode cX8_holds 124 = .ok (.if_icmp .ge 5, 3) := by decide +kernel
theorem dX8_holds_127 : decode cX8_holds 127 = .ok (.iconst 0, 1) := by decide +kernel
theorem dX8_holds_128 : decode cX8_holds 128 = .ok (.ireturn, 1) := by decide +kernel
theorem dX8_holds_129 : decode cX8_holds 129 = .ok (.iinc 7 (-1), 3) := by decide +kernel
theorem dX8_holds_132 : decode cX8_holds 132 = .ok (.aload_n 0, 1) := by decide +kernel
theorem dX8_holds_133 : decode cX8_holds 133 = .ok (.getfield 15, 3) := by decide +kernel
theorem dX8_holds_136 : decode cX8_holds 136 = .ok (.iload 7, 2) := by decide +kernel
theorem dX8_holds_138 : decode cX8_holds 138 = .ok (.iconst 1, 1) := by decide +kernel
theorem dX8_holds_139 : decode cX8_holds 139 = .ok (.isub, 1) := by decide +kernel
theorem dX8_holds_140 : decode cX8_holds 140 = .ok (.iload 9, 2) := by decide +kernel
theorem dX8_holds_142 : decode cX8_holds 142 = .ok (.aload_n 0, 1) := by decide +kernel
theorem dX8_holds_143 : decode cX8_holds 143 = .ok (.getfield 15, 3) := by decide +kernel
theorem dX8_holds_146 : decode cX8_holds 146 = .ok (.iload 7, 2) := by decide +kernel
theorem dX8_holds_148 : decode cX8_holds 148 = .ok (.iconst 1, 1) := by decide +kernel
theorem dX8_holds_149 : decode cX8_holds 149 = .ok (.isub, 1) := by decide +kernel
theorem dX8_holds_150 : decode cX8_holds 150 = .ok (.iaload, 1) := by decide +kernel
theorem dX8_holds_151 : decode cX8_holds 151 = .ok (.aload_n 0, 1) := by decide +kernel
theorem dX8_holds_152 : decode cX8_holds 152 = .ok (.getfield 15, 3) := by decide +kernel
theorem dX8_holds_155 : decode cX8_holds 155 = .ok (.iload 7, 2) := by decide +kernel
theorem dX8_holds_157 : decode cX8_holds 157 = .ok (.iaload, 1) := by decide +kernel
theorem dX8_holds_158 : decode cX8_holds 158 = .ok (.invokestatic 32, 3) := by decide +kernel
theorem dX8_holds_161 : decode cX8_holds 161 = .ok (.iastore, 1) := by decide +kernel
theorem dX8_holds_162 : decode cX8_holds 162 = .ok (.iinc 8 1, 3) := by decide +kernel
theorem dX8_holds_165 : decode cX8_holds 165 = .ok (.goto (-155), 3) := by decide +kernel
theorem dX8_holds_168 : decode cX8_holds 168 = .ok (.iload 7, 2) := by decide +kernel
theorem dX8_holds_170 : decode cX8_holds 170 = .ok (.iconst 1, 1) := by decide +kernel
theorem dX8_holds_171 : decode cX8_holds 171 = .ok (.if_icmp .ne 17, 3) := by decide +kernel
theorem dX8_holds_174 : decode cX8_holds 174 = .ok (.aload_n 0, 1) := by decide +kernel
theorem dX8_holds_175 : decode cX8_holds 175 = .ok (.getfield 15, 3) := by decide +kernel
theorem dX8_holds_178 : decode cX8_holds 178 = .ok (.iconst 0, 1) := by decide +kernel
theorem dX8_holds_179 : decode cX8_holds 179 = .ok (.iaload, 1) := by decide +kernel
theorem dX8_holds_180 : decode cX8_holds 180 = .ok (.iconst 1, 1) := by decide +kernel
theorem dX8_holds_181 : decode cX8_holds 181 = .ok (.if_icmp .ne 7, 3) := by decide +kernel
theorem dX8_holds_184 : decode cX8_holds 184 = .ok (.iconst 1, 1) := by decide +kernel
theorem dX8_holds_185 : decode cX8_holds 185 = .ok (.goto 4, 3) := by decide +kernel
theorem dX8_holds_188 : decode cX8_holds 188 = .ok (.iconst 0, 1) := by decide +kernel
theorem dX8_holds_189 : decode cX8_holds 189 = .ok (.ireturn, 1) := by decide +kernel
theorem dX8_value_0 : decode cX8_value 0 = .ok (.iload_n 0, 1) := by decide +kernel
theorem dX8_value_1 : decode cX8_value 1 = .ok (.tableswitch 46 (-5) (-1) #[44, 41, 39, 37, 35], 35) := by decide +kernel
theorem dX8_value_36 : decode cX8_value 36 = .ok (.iload_n 1, 1) := by decide +kernel
theorem dX8_value_37 : decode cX8_value 37 = .ok (.ireturn, 1) := by decide +kernel
theorem dX8_value_38 : decode cX8_value 38 = .ok (.iload_n 2, 1) := by decide +kernel
theorem dX8_value_39 : decode cX8_value 39 = .ok (.ireturn, 1) := by decide +kernel
theorem dX8_value_40 : decode cX8_value 40 = .ok (.iload_n 3, 1) := by decide +kernel
theorem dX8_value_41 : decode cX8_value 41 = .ok (.ireturn, 1) := by decide +kernel
theorem dX8_value_42 : decode cX8_value 42 = .ok (.iload 4, 2) := by decide +kernel
theorem dX8_value_44 : decode cX8_value 44 = .ok (.ireturn, 1) := by decide +kernel
theorem dX8_value_45 : decode cX8_value 45 = .ok (.iconst 1, 1) := by decide +kernel
theorem dX8_value_46 : decode cX8_value 46 = .ok (.ireturn, 1) := by decide +kernel
theorem dX8_value_47 : decode cX8_value 47 = .ok (.iload_n 0, 1) := by decide +kernel
theorem dX8_value_48 : decode cX8_value 48 = .ok (.ireturn, 1) := by decide +kernel
theorem dX8_joined_0 : decode cX8_joined 0 = .ok (.iload_n 0, 1) := by decide +kernel
theorem dX8_joined_1 : decode cX8_joined 1 = .ok (.tableswitch 161 (-17) (-7) #[155, 141, 127, 118, 109, 100, 89, 78, 67, 63, 59], 59) := by decide +kernel
theorem dX8_joined_60 : decode cX8_joined 60 = .ok (.iload_n 1, 1) := by decide +kernel
theorem dX8_joined_61 : decode cX8_joined 61 = .ok (.iload_n 2, 1) := by decide +kernel
theorem dX8_joined_62 : decode cX8_joined 62 = .ok (.ior, 1) := by decide +kernel
theorem dX8_joined_63 : decode cX8_joined 63 = .ok (.ireturn, 1) := by decide +kernel
theorem dX8_joined_64 : decode cX8_joined 64 = .ok (.iload_n 1, 1) := by decide +kernel
theorem dX8_joined_65 : decode cX8_joined 65 = .ok (.iload_n 2, 1) := by decide +kernel
theorem dX8_joined_66 : decode cX8_joined 66 = .ok (.iand, 1) := by decide +kernel
theorem dX8_joined_67 : decode cX8_joined 67 = .ok (.ireturn, 1) := by decide +kernel
theorem dX8_joined_68 : decode cX8_joined 68 = .ok (.iload_n 1, 1) := by decide +kernel
theorem dX8_joined_69 : decode cX8_joined 69 = .ok (.iload_n 2, 1) := by decide +kernel
theorem dX8_joined_70 : decode cX8_joined 70 = .ok (.if_icmp .ge 7, 3) := by decide +kernel
theorem dX8_joined_73 : decode cX8_joined 73 = .ok (.iconst 1, 1) := by decide +kernel
theorem dX8_joined_74 : decode cX8_joined 74 = .ok (.goto 4, 3) := by decide +kernel
theorem dX8_joined_77 : decode cX8_joined 77 = .ok (.iconst 0, 1) := by decide +kernel
theorem dX8_joined_78 : decode cX8_joined 78 = .ok (.ireturn, 1) := by decide +kernel
theorem dX8_joined_79 : decode cX8_joined 79 = .ok (.iload_n 1, 1) := by decide +kernel
theorem dX8_joined_80 : decode cX8_joined 80 = .ok (.iload_n 2, 1) := by decide +kernel
theorem dX8_joined_81 : decode cX8_joined 81 = .ok (.if_icmp .le 7, 3) := by decide +kernel
theorem dX8_joined_84 : decode cX8_joined 84 = .ok (.iconst 1, 1) := by decide +kernel
theorem dX8_joined_85 : decode cX8_joined 85 = .ok (.goto 4, 3) := by decide +kernel
theorem dX8_joined_88 : decode cX8_joined 88 = .ok (.iconst 0, 1) := by decide +kernel
theorem dX8_joined_89 : decode cX8_joined 89 = .ok (.ireturn, 1) := by decide +kernel
theorem dX8_joined_90 : decode cX8_joined 90 = .ok (.iload_n 1, 1) := by decide +kernel
theorem dX8_joined_91 : decode cX8_joined 91 = .ok (.iload_n 2, 1) := by decide +kernel
theorem dX8_joined_92 : decode cX8_joined 92 = .ok (.if_icmp .ne 7, 3) := by decide +kernel
theorem dX8_joined_95 : decode cX8_joined 95 = .ok (.iconst 1, 1) := by decide +kernel
theorem dX8_joined_96 : decode cX8_joined 96 = .ok (.goto 4, 3) := by decide +kernel
theorem dX8_joined_99 : decode cX8_joined 99 = .ok (.iconst 0, 1) := by decide +kernel
theorem dX8_joined_100 : decode cX8_joined 100 = .ok (.ireturn, 1) := by decide +kernel
theorem dX8_joined_101 : decode cX8_joined 101 = .ok (.iload_n 1, 1) := by decide +kernel
theorem dX8_joined_102 : decode cX8_joined 102 = .ok (.i2l, 1) := by decide +kernel
theorem dX8_joined_103 : decode cX8_joined 103 = .ok (.iload_n 2, 1) := by decide +kernel
theorem dX8_joined_104 : decode cX8_joined 104 = .ok (.i2l, 1) := by decide +kernel
theorem dX8_joined_105 : decode cX8_joined 105 = .ok (.ladd, 1) := by decide +kernel
theorem dX8_joined_106 : decode cX8_joined 106 = .ok (.invokestatic 36, 3) := by decide +kernel
theorem dX8_joined_109 : decode cX8_joined 109 = .ok (.ireturn, 1) := by decide +kernel
theorem dX8_joined_110 : decode cX8_joined 110 = .ok (.iload_n 1, 1) := by decide +kernel
theorem dX8_joined_111 : decode cX8_joined 111 = .ok (.i2l, 1) := by decide +kernel
theorem dX8_joined_112 : decode cX8_joined 112 = .ok (.iload_n 2, 1) := by decide +kernel
theorem dX8_joined_113 : decode cX8_joined 113 = .ok (.i2l, 1) := by decide +kernel
theorem dX8_joined_114 : decode cX8_joined 114 = .ok (.lsub, 1) := by decide +kernel
theorem dX8_joined_115 : decode cX8_joined 115 = .ok (.invokestatic 36, 3) := by decide +kernel
theorem dX8_joined_118 : decode cX8_joined 118 = .ok (.ireturn, 1) := by decide +kernel
theorem dX8_joined_119 : decode cX8_joined 119 = .ok (.iload_n 1, 1) := by decide +kernel
theorem dX8_joined_120 : decode cX8_joined 120 = .ok (.i2l, 1) := by decide +kernel
theorem dX8_joined_121 : decode cX8_joined 121 = .ok (.iload_n 2, 1) := by decide +kernel
theorem dX8_joined_122 : decode cX8_joined 122 = .ok (.i2l, 1) := by decide +kernel
theorem dX8_joined_123 : decode cX8_joined 123 = .ok (.lmul, 1) := by decide +kernel
theorem dX8_joined_124 : decode cX8_joined 124 = .ok (.invokestatic 36, 3) := by decide +kernel
theorem dX8_joined_127 : decode cX8_joined 127 = .ok (.ireturn, 1) := by decide +kernel
theorem dX8_joined_128 : decode cX8_joined 128 = .ok (.iload_n 2, 1) := by decide +kernel
theorem dX8_joined_129 : decode cX8_joined 129 = .ok (.ifCond .ne 7, 3) := by decide +kernel
theorem dX8_joined_132 : decode cX8_joined 132 = .ok (.iconst 0, 1) := by decide +kernel
theorem dX8_joined_133 : decode cX8_joined 133 = .ok (.goto 8, 3) := by decide +kernel
theorem dX8_joined_136 : decode cX8_joined 136 = .ok (.iload_n 1, 1) := by decide +kernel
theorem dX8_joined_137 : decode cX8_joined 137 = .ok (.iload_n 2, 1) := by decide +kernel
theorem dX8_joined_138 : decode cX8_joined 138 = .ok (.invokestatic 40, 3) := by decide +kernel
theorem dX8_joined_141 : decode cX8_joined 141 = .ok (.ireturn, 1) := by decide +kernel
theorem dX8_joined_142 : decode cX8_joined 142 = .ok (.iload_n 2, 1) := by decide +kernel
theorem dX8_joined_143 : decode cX8_joined 143 = .ok (.ifCond .ne 7, 3) := by decide +kernel
theorem dX8_joined_146 : decode cX8_joined 146 = .ok (.iconst 0, 1) := by decide +kernel
theorem dX8_joined_147 : decode cX8_joined 147 = .ok (.goto 8, 3) := by decide +kernel
theorem dX8_joined_150 : decode cX8_joined 150 = .ok (.iload_n 1, 1) := by decide +kernel
theorem dX8_joined_151 : decode cX8_joined 151 = .ok (.iload_n 2, 1) := by decide +kernel
theorem dX8_joined_152 : decode cX8_joined 152 = .ok (.invokestatic 43, 3) := by decide +kernel
theorem dX8_joined_155 : decode cX8_joined 155 = .ok (.ireturn, 1) := by decide +kernel
theorem dX8_joined_156 : decode cX8_joined 156 = .ok (.iload_n 1, 1) := by decide +kernel
theorem dX8_joined_157 : decode cX8_joined 157 = .ok (.iload_n 2, 1) := by decide +kernel
theorem dX8_joined_158 : decode cX8_joined 158 = .ok (.invokestatic 46, 3) := by decide +kernel
theorem dX8_joined_161 : decode cX8_joined 161 = .ok (.ireturn, 1) := by decide +kernel
theorem dX8_joined_162 : decode cX8_joined 162 = .ok (.iload_n 1, 1) := by decide +kernel
theorem dX8_joined_163 : decode cX8_joined 163 = .ok (.iload_n 2, 1) := by decide +kernel
theorem dX8_joined_164 : decode cX8_joined 164 = .ok (.invokestatic 22, 3) := by decide +kernel
theorem dX8_joined_167 : decode cX8_joined 167 = .ok (.ireturn, 1) := by decide +kernel
theorem dX8_bounded_0 : decode cX8_bounded 0 = .ok (.lload_n 0, 1) := by decide +kernel
theorem dX8_bounded_1 : decode cX8_bounded 1 = .ok (.ldc2_w 49, 3) := by decide +kernel
theorem dX8_bounded_4 : decode cX8_bounded 4 = .ok (.lcmp, 1) := by decide +kernel
theorem dX8_bounded_5 : decode cX8_bounded 5 = .ok (.ifCond .le 6, 3) := by decide +kernel
theorem dX8_bounded_8 : decode cX8_bounded 8 = .ok (.ldc 51, 2) := by decide +kernel
theorem dX8_bounded_10 : decode cX8_bounded 10 = .ok (.ireturn, 1) := by decide +kernel
theorem dX8_bounded_11 : decode cX8_bounded 11 = .ok (.lload_n 0, 1) := by decide +kernel
theorem dX8_bounded_12 : decode cX8_bounded 12 = .ok (.ldc2_w 52, 3) := by decide +kernel
theorem dX8_bounded_15 : decode cX8_bounded 15 = .ok (.lcmp, 1) := by decide +kernel
theorem dX8_bounded_16 : decode cX8_bounded 16 = .ok (.ifCond .ge 8, 3) := by decide +kernel
theorem dX8_bounded_19 : decode cX8_bounded 19 = .ok (.ldc 54, 2) := by decide +kernel
theorem dX8_bounded_21 : decode cX8_bounded 21 = .ok (.goto 5, 3) := by decide +kernel
theorem dX8_bounded_24 : decode cX8_bounded 24 = .ok (.lload_n 0, 1) := by decide +kernel
theorem dX8_bounded_25 : decode cX8_bounded 25 = .ok (.l2i, 1) := by decide +kernel
theorem dX8_bounded_26 : decode cX8_bounded 26 = .ok (.ireturn, 1) := by decide +kernel
theorem dJ6_bitCount_0f7a4_0 : decode cJ6_bitCount_0f7a4 0 = .ok (.iload_n 0, 1) := by decide +kernel
theorem dJ6_bitCount_0f7a4_1 : decode cJ6_bitCount_0f7a4 1 = .ok (.iload_n 0, 1) := by decide +kernel
theorem dJ6_bitCount_0f7a4_2 : decode cJ6_bitCount_0f7a4 2 = .ok (.iconst 1, 1) := by decide +kernel
theorem dJ6_bitCount_0f7a4_3 : decode cJ6_bitCount_0f7a4 3 = .ok (.iushr, 1) := by decide +kernel
theorem dJ6_bitCount_0f7a4_4 : decode cJ6_bitCount_0f7a4 4 = .ok (.ldc_w 265, 3) := by decide +kernel
theorem dJ6_bitCount_0f7a4_7 : decode cJ6_bitCount_0f7a4 7 = .ok (.iand, 1) := by decide +kernel
theorem dJ6_bitCount_0f7a4_8 : decode cJ6_bitCount_0f7a4 8 = .ok (.isub, 1) := by decide +kernel
theorem dJ6_bitCount_0f7a4_9 : decode cJ6_bitCount_0f7a4 9 = .ok (.istore_n 0, 1) := by decide +kernel
theorem dJ6_bitCount_0f7a4_10 : decode cJ6_bitCount_0f7a4 10 = .ok (.iload_n 0, 1) := by decide +kernel
theorem dJ6_bitCount_0f7a4_11 : decode cJ6_bitCount_0f7a4 11 = .ok (.ldc_w 266, 3) := by decide +kernel
theorem dJ6_bitCount_0f7a4_14 : decode cJ6_bitCount_0f7a4 14 = .ok (.iand, 1) := by decide +kernel
theorem dJ6_bitCount_0f7a4_15 : decode cJ6_bitCount_0f7a4 15 = .ok (.iload_n 0, 1) := by decide +kernel
theorem dJ6_bitCount_0f7a4_16 : decode cJ6_bitCount_0f7a4 16 = .ok (.iconst 2, 1) := by decide +kernel
theorem dJ6_bitCount_0f7a4_17 : decode cJ6_bitCount_0f7a4 17 = .ok (.iushr, 1) := by decide +kernel
theorem dJ6_bitCount_0f7a4_18 : decode cJ6_bitCount_0f7a4 18 = .ok (.ldc_w 266, 3) := by decide +kernel
theorem dJ6_bitCount_0f7a4_21 : decode cJ6_bitCount_0f7a4 21 = .ok (.iand, 1) := by decide +kernel
theorem dJ6_bitCount_0f7a4_22 : decode cJ6_bitCount_0f7a4 22 = .ok (.iadd, 1) := by decide +kernel
theorem dJ6_bitCount_0f7a4_23 : decode cJ6_bitCount_0f7a4 23 = .ok (.istore_n 0, 1) := by decide +kernel
theorem dJ6_bitCount_0f7a4_24 : decode cJ6_bitCount_0f7a4 24 = .ok (.iload_n 0, 1) := by decide +kernel
theorem dJ6_bitCount_0f7a4_25 : decode cJ6_bitCount_0f7a4 25 = .ok (.iload_n 0, 1) := by decide +kernel
theorem dJ6_bitCount_0f7a4_26 : decode cJ6_bitCount_0f7a4 26 = .ok (.iconst 4, 1) := by decide +kernel
theorem dJ6_bitCount_0f7a4_27 : decode cJ6_bitCount_0f7a4 27 = .ok (.iushr, 1) := by decide +kernel
theorem dJ6_bitCount_0f7a4_28 : decode cJ6_bitCount_0f7a4 28 = .ok (.iadd, 1) := by decide +kernel
theorem dJ6_bitCount_0f7a4_29 : decode cJ6_bitCount_0f7a4 29 = .ok (.ldc_w 267, 3) := by decide +kernel
theorem dJ6_bitCount_0f7a4_32 : decode cJ6_bitCount_0f7a4 32 = .ok (.iand, 1) := by decide +kernel
theorem dJ6_bitCount_0f7a4_33 : decode cJ6_bitCount_0f7a4 33 = .ok (.istore_n 0, 1) := by decide +kernel
theorem dJ6_bitCount_0f7a4_34 : decode cJ6_bitCount_0f7a4 34 = .ok (.iload_n 0, 1) := by decide +kernel
theorem dJ6_bitCount_0f7a4_35 : decode cJ6_bitCount_0f7a4 35 = .ok (.iload_n 0, 1) := by decide +kernel
theorem dJ6_bitCount_0f7a4_36 : decode cJ6_bitCount_0f7a4 36 = .ok (.bipush 8, 2) := by decide +kernel
theorem dJ6_bitCount_0f7a4_38 : decode cJ6_bitCount_0f7a4 38 = .ok (.iushr, 1) := by decide +kernel
theorem dJ6_bitCount_0f7a4_39 : decode cJ6_bitCount_0f7a4 39 = .ok (.iadd, 1) := by decide +kernel
theorem dJ6_bitCount_0f7a4_40 : decode cJ6_bitCount_0f7a4 40 = .ok (.istore_n 0, 1) := by decide +kernel
theorem dJ6_bitCount_0f7a4_41 : decode cJ6_bitCount_0f7a4 41 = .ok (.iload_n 0, 1) := by decide +kernel
theorem dJ6_bitCount_0f7a4_42 : decode cJ6_bitCount_0f7a4 42 = .ok (.iload_n 0, 1) := by decide +kernel
theorem dJ6_bitCount_0f7a4_43 : decode cJ6_bitCount_0f7a4 43 = .ok (.bipush 16, 2) := by decide +kernel
theorem dJ6_bitCount_0f7a4_45 : decode cJ6_bitCount_0f7a4 45 = .ok (.iushr, 1) := by decide +kernel
theorem dJ6_bitCount_0f7a4_46 : decode cJ6_bitCount_0f7a4 46 = .ok (.iadd, 1) := by decide +kernel
theorem dJ6_bitCount_0f7a4_47 : decode cJ6_bitCount_0f7a4 47 = .ok (.istore_n 0, 1) := by decide +kernel
theorem dJ6_bitCount_0f7a4_48 : decode cJ6_bitCount_0f7a4 48 = .ok (.iload_n 0, 1) := by decide +kernel
theorem dJ6_bitCount_0f7a4_49 : decode cJ6_bitCount_0f7a4 49 = .ok (.bipush 63, 2) := by decide +kernel
theorem dJ6_bitCount_0f7a4_51 : decode cJ6_bitCount_0f7a4 51 = .ok (.iand, 1) := by decide +kernel
theorem dJ6_bitCount_0f7a4_52 : decode cJ6_bitCount_0f7a4 52 = .ok (.ireturn, 1) := by decide +kernel
theorem dJ9_floorDiv_7cf53_0 : decode cJ9_floorDiv_7cf53 0 = .ok (.iload_n 0, 1) := by decide +kernel
theorem dJ9_floorDiv_7cf53_1 : decode cJ9_floorDiv_7cf53 1 = .ok (.iload_n 1, 1) := by decide +kernel
theorem dJ9_floorDiv_7cf53_2 : decode cJ9_floorDiv_7cf53 2 = .ok (.idiv, 1) := by decide +kernel
theorem dJ9_floorDiv_7cf53_3 : decode cJ9_floorDiv_7cf53 3 = .ok (.istore_n 2, 1) := by decide +kernel
theorem dJ9_floorDiv_7cf53_4 : decode cJ9_floorDiv_7cf53 4 = .ok (.iload_n 0, 1) := by decide +kernel
theorem dJ9_floorDiv_7cf53_5 : decode cJ9_floorDiv_7cf53 5 = .ok (.iload_n 1, 1) := by decide +kernel
theorem dJ9_floorDiv_7cf53_6 : decode cJ9_floorDiv_7cf53 6 = .ok (.ixor, 1) := by decide +kernel
theorem dJ9_floorDiv_7cf53_7 : decode cJ9_floorDiv_7cf53 7 = .ok (.ifCond .ge 14, 3) := by decide +kernel
theorem dJ9_floorDiv_7cf53_10 : decode cJ9_floorDiv_7cf53 10 = .ok (.iload_n 2, 1) := by decide +kernel
theorem dJ9_floorDiv_7cf53_11 : decode cJ9_floorDiv_7cf53 11 = .ok (.iload_n 1, 1) := by decide +kernel
theorem dJ9_floorDiv_7cf53_12 : decode cJ9_floorDiv_7cf53 12 = .ok (.imul, 1) := by decide +kernel
theorem dJ9_floorDiv_7cf53_13 : decode cJ9_floorDiv_7cf53 13 = .ok (.iload_n 0, 1) := by decide +kernel
theorem dJ9_floorDiv_7cf53_14 : decode cJ9_floorDiv_7cf53 14 = .ok (.if_icmp .eq 7, 3) := by decide +kernel
theorem dJ9_floorDiv_7cf53_17 : decode cJ9_floorDiv_7cf53 17 = .ok (.iload_n 2, 1) := by decide +kernel
theorem dJ9_floorDiv_7cf53_18 : decode cJ9_floorDiv_7cf53 18 = .ok (.iconst 1, 1) := by decide +kernel
theorem dJ9_floorDiv_7cf53_19 : decode cJ9_floorDiv_7cf53 19 = .ok (.isub, 1) := by decide +kernel
theorem dJ9_floorDiv_7cf53_20 : decode cJ9_floorDiv_7cf53 20 = .ok (.ireturn, 1) := by decide +kernel
theorem dJ9_floorDiv_7cf53_21 : decode cJ9_floorDiv_7cf53 21 = .ok (.iload_n 2, 1) := by decide +kernel
theorem dJ9_floorDiv_7cf53_22 : decode cJ9_floorDiv_7cf53 22 = .ok (.ireturn, 1) := by decide +kernel
theorem dJ9_floorMod_7cf53_0 : decode cJ9_floorMod_7cf53 0 = .ok (.iload_n 0, 1) := by decide +kernel
theorem dJ9_floorMod_7cf53_1 : decode cJ9_floorMod_7cf53 1 = .ok (.iload_n 1, 1) := by decide +kernel
theorem dJ9_floorMod_7cf53_2 : decode cJ9_floorMod_7cf53 2 = .ok (.irem, 1) := by decide +kernel
theorem dJ9_floorMod_7cf53_3 : decode cJ9_floorMod_7cf53 3 = .ok (.istore_n 2, 1) := by decide +kernel
theorem dJ9_floorMod_7cf53_4 : decode cJ9_floorMod_7cf53 4 = .ok (.iload_n 0, 1) := by decide +kernel
theorem dJ9_floorMod_7cf53_5 : decode cJ9_floorMod_7cf53 5 = .ok (.iload_n 1, 1) := by decide +kernel
theorem dJ9_floorMod_7cf53_6 : decode cJ9_floorMod_7cf53 6 = .ok (.ixor, 1) := by decide +kernel
theorem dJ9_floorMod_7cf53_7 : decode cJ9_floorMod_7cf53 7 = .ok (.ifCond .ge 11, 3) := by decide +kernel
theorem dJ9_floorMod_7cf53_10 : decode cJ9_floorMod_7cf53 10 = .ok (.iload_n 2, 1) := by decide +kernel
theorem dJ9_floorMod_7cf53_11 : decode cJ9_floorMod_7cf53 11 = .ok (.ifCond .eq 7, 3) := by decide +kernel
theorem dJ9_floorMod_7cf53_14 : decode cJ9_floorMod_7cf53 14 = .ok (.iload_n 2, 1) := by decide +kernel
theorem dJ9_floorMod_7cf53_15 : decode cJ9_floorMod_7cf53 15 = .ok (.iload_n 1, 1) := by decide +kernel
theorem dJ9_floorMod_7cf53_16 : decode cJ9_floorMod_7cf53 16 = .ok (.iadd, 1) := by decide +kernel
theorem dJ9_floorMod_7cf53_17 : decode cJ9_floorMod_7cf53 17 = .ok (.ireturn, 1) := by decide +kernel
theorem dJ9_floorMod_7cf53_18 : decode cJ9_floorMod_7cf53 18 = .ok (.iload_n 2, 1) := by decide +kernel
theorem dJ9_floorMod_7cf53_19 : decode cJ9_floorMod_7cf53 19 = .ok (.ireturn, 1) := by decide +kernel
