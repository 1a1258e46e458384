theorem dX12_counts_0 : decode cX12_counts 0 = .ok (.aload_n 0, 1) := by decide +kernel
theorem dX12_counts_1 : decode cX12_counts 1 = .ok (.getfield 36, 3) := by decide +kernel
theorem dX12_counts_4 : decode cX12_counts 4 = .ok (.ifCond .ne 16, 3) := by decide +kernel
theorem dX12_counts_7 : decode cX12_counts 7 = .ok (.iload_n 1, 1) := by decide +kernel
theorem dX12_counts_8 : decode cX12_counts 8 = .ok (.ifCond .eq 12, 3) := by decide +kernel
theorem dX12_counts_11 : decode cX12_counts 11 = .ok (.aload_n 0, 1) := by decide +kernel
theorem dX12_counts_12 : decode cX12_counts 12 = .ok (.iconst 5, 1) := by decide +kernel
theorem dX12_counts_13 : decode cX12_counts 13 = .ok (.aload_n 0, 1) := by decide +kernel
theorem dX12_counts_14 : decode cX12_counts 14 = .ok (.getfield 23, 3) := by decide +kernel
theorem dX12_counts_17 : decode cX12_counts 17 = .ok (.invokevirtual 286, 3) := by decide +kernel
theorem dX12_counts_20 : decode cX12_counts 20 = .ok (.aload_n 0, 1) := by decide +kernel
theorem dX12_counts_21 : decode cX12_counts 21 = .ok (.getfield 36, 3) := by decide +kernel
theorem dX12_counts_24 : decode cX12_counts 24 = .ok (.ifCond .ne 7, 3) := by decide +kernel
theorem dX12_counts_27 : decode cX12_counts 27 = .ok (.aload_n 0, 1) := by decide +kernel
theorem dX12_counts_28 : decode cX12_counts 28 = .ok (.invokevirtual 293, 3) := by decide +kernel
theorem dX12_counts_31 : decode cX12_counts 31 = .ok (.aload_n 0, 1) := by decide +kernel
theorem dX12_counts_32 : decode cX12_counts 32 = .ok (.getfield 36, 3) := by decide +kernel
theorem dX12_counts_35 : decode cX12_counts 35 = .ok (.ifCond .ne 7, 3) := by decide +kernel
theorem dX12_counts_38 : decode cX12_counts 38 = .ok (.iconst 1, 1) := by decide +kernel
theorem dX12_counts_39 : decode cX12_counts 39 = .ok (.goto 4, 3) := by decide +kernel
theorem dX12_counts_42 : decode cX12_counts 42 = .ok (.iconst 0, 1) := by decide +kernel
theorem dX12_counts_43 : decode cX12_counts 43 = .ok (.ireturn, 1) := by decide +kernel
theorem dX12_fresh_0 : decode cX12_fresh 0 = .ok (.aload_n 0, 1) := by decide +kernel
theorem dX12_fresh_1 : decode cX12_fresh 1 = .ok (.getfield 36, 3) := by decide +kernel
theorem dX12_fresh_4 : decode cX12_fresh 4 = .ok (.ifCond .le 5, 3) := by decide +kernel
theorem dX12_fresh_7 : decode cX12_fresh 7 = .ok (.lconst 0, 1) := by decide +kernel
theorem dX12_fresh_8 : decode cX12_fresh 8 = .ok (.lreturn, 1) := by decide +kernel
theorem dX12_fresh_9 : decode cX12_fresh 9 = .ok (.aload_n 0, 1) := by decide +kernel
theorem dX12_fresh_10 : decode cX12_fresh 10 = .ok (.getfield 20, 3) := by decide +kernel
theorem dX12_fresh_13 : decode cX12_fresh 13 = .ok (.iconst 1, 1) := by decide +kernel
theorem dX12_fresh_14 : decode cX12_fresh 14 = .ok (.if_icmp .ne 14, 3) := by decide +kernel
theorem dX12_fresh_17 : decode cX12_fresh 17 = .ok (.aload_n 0, 1) := by decide +kernel
theorem dX12_fresh_18 : decode cX12_fresh 18 = .ok (.aload_n 0, 1) := by decide +kernel
theorem dX12_fresh_19 : decode cX12_fresh 19 = .ok (.getfield 32, 3) := by decide +kernel
theorem dX12_fresh_22 : decode cX12_fresh 22 = .ok (.invokevirtual 387, 3) := by decide +kernel
theorem dX12_fresh_25 : decode cX12_fresh 25 = .ok (.ifCond .eq 12, 3) := by decide +kernel
theorem dX12_fresh_28 : decode cX12_fresh 28 = .ok (.aload_n 0, 1) := by decide +kernel
theorem dX12_fresh_29 : decode cX12_fresh 29 = .ok (.iconst 1, 1) := by decide +kernel
theorem dX12_fresh_30 : decode cX12_fresh 30 = .ok (.aload_n 0, 1) := by decide +kernel
theorem dX12_fresh_31 : decode cX12_fresh 31 = .ok (.getfield 23, 3) := by decide +kernel
theorem dX12_fresh_34 : decode cX12_fresh 34 = .ok (.invokevirtual 286, 3) := by decide +kernel
theorem dX12_fresh_37 : decode cX12_fresh 37 = .ok (.iconst 0, 1) := by decide +kernel
theorem dX12_fresh_38 : decode cX12_fresh 38 = .ok (.istore_n 1, 1) := by decide +kernel
theorem dX12_fresh_39 : decode cX12_fresh 39 = .ok (.iload_n 1, 1) := by decide +kernel
theorem dX12_fresh_40 : decode cX12_fresh 40 = .ok (.iconst 4, 1) := by decide +kernel
theorem dX12_fresh_41 : decode cX12_fresh 41 = .ok (.if_icmp .gt 38, 3) := by decide +kernel
theorem dX12_fresh_44 : decode cX12_fresh 44 = .ok (.aload_n 0, 1) := by decide +kernel
theorem dX12_fresh_45 : decode cX12_fresh 45 = .ok (.getfield 36, 3) := by decide +kernel
theorem dX12_fresh_48 : decode cX12_fresh 48 = .ok (.ifCond .ne 31, 3) := by decide +kernel
theorem dX12_fresh_51 : decode cX12_fresh 51 = .ok (.aload_n 0, 1) := by decide +kernel
theorem dX12_fresh_52 : decode cX12_fresh 52 = .ok (.iload_n 1, 1) := by decide +kernel
theorem dX12_fresh_53 : decode cX12_fresh 53 = .ok (.aload_n 0, 1) := by decide +kernel
theorem dX12_fresh_54 : decode cX12_fresh 54 = .ok (.getfield 32, 3) := by decide +kernel
theorem dX12_fresh_57 : decode cX12_fresh 57 = .ok (.invokevirtual 390, 3) := by decide +kernel
theorem dX12_fresh_60 : decode cX12_fresh 60 = .ok (.iconst (-1), 1) := by decide +kernel
theorem dX12_fresh_61 : decode cX12_fresh 61 = .ok (.if_icmp .eq 12, 3) := by decide +kernel
theorem dX12_fresh_64 : decode cX12_fresh 64 = .ok (.aload_n 0, 1) := by decide +kernel
theorem dX12_fresh_65 : decode cX12_fresh 65 = .ok (.iconst 2, 1) := by decide +kernel
theorem dX12_fresh_66 : decode cX12_fresh 66 = .ok (.aload_n 0, 1) := by decide +kernel
theorem dX12_fresh_67 : decode cX12_fresh 67 = .ok (.getfield 23, 3) := by decide +kernel
theorem dX12_fresh_70 : decode cX12_fresh 70 = .ok (.invokevirtual 286, 3) := by decide +kernel
theorem dX12_fresh_73 : decode cX12_fresh 73 = .ok (.iinc 1 1, 3) := by decide +kernel
theorem dX12_fresh_76 : decode cX12_fresh 76 = .ok (.goto (-37), 3) := by decide +kernel
theorem dX12_fresh_79 : decode cX12_fresh 79 = .ok (.aload_n 0, 1) := by decide +kernel
theorem dX12_fresh_80 : decode cX12_fresh 80 = .ok (.getfield 32, 3) := by decide +kernel
theorem dX12_fresh_83 : decode cX12_fresh 83 = .ok (.lstore_n 1, 1) := by decide +kernel
theorem dX12_fresh_84 : decode cX12_fresh 84 = .ok (.aload_n 0, 1) := by decide +kernel
theorem dX12_fresh_85 : decode cX12_fresh 85 = .ok (.getfield 36, 3) := by decide +kernel
theorem dX12_fresh_88 : decode cX12_fresh 88 = .ok (.ifCond .ne 7, 3) := by decide +kernel
theorem dX12_fresh_91 : decode cX12_fresh 91 = .ok (.aload_n 0, 1) := by decide +kernel
theorem dX12_fresh_92 : decode cX12_fresh 92 = .ok (.invokevirtual 293, 3) := by decide +kernel
theorem dX12_fresh_95 : decode cX12_fresh 95 = .ok (.lload_n 1, 1) := by decide +kernel
theorem dX12_fresh_96 : decode cX12_fresh 96 = .ok (.lreturn, 1) := by decide +kernel
theorem dX12_asked_0 : decode cX12_asked 0 = .ok (.aload_n 0, 1) := by decide +kernel
theorem dX12_asked_1 : decode cX12_asked 1 = .ok (.getfield 36, 3) := by decide +kernel
theorem dX12_asked_4 : decode cX12_asked 4 = .ok (.ifCond .le 5, 3) := by decide +kernel
theorem dX12_asked_7 : decode cX12_asked 7 = .ok (.iconst 0, 1) := by decide +kernel
theorem dX12_asked_8 : decode cX12_asked 8 = .ok (.ireturn, 1) := by decide +kernel
theorem dX12_asked_9 : decode cX12_asked 9 = .ok (.aload_n 0, 1) := by decide +kernel
theorem dX12_asked_10 : decode cX12_asked 10 = .ok (.getfield 20, 3) := by decide +kernel
theorem dX12_asked_13 : decode cX12_asked 13 = .ok (.iconst 1, 1) := by decide +kernel
theorem dX12_asked_14 : decode cX12_asked 14 = .ok (.if_icmp .ne 14, 3) := by decide +kernel
theorem dX12_asked_17 : decode cX12_asked 17 = .ok (.aload_n 0, 1) := by decide +kernel
theorem dX12_asked_18 : decode cX12_asked 18 = .ok (.aload_n 0, 1) := by decide +kernel
theorem dX12_asked_19 : decode cX12_asked 19 = .ok (.getfield 32, 3) := by decide +kernel
theorem dX12_asked_22 : decode cX12_asked 22 = .ok (.invokevirtual 387, 3) := by decide +kernel
theorem dX12_asked_25 : decode cX12_asked 25 = .ok (.ifCond .eq 12, 3) := by decide +kernel
theorem dX12_asked_28 : decode cX12_asked 28 = .ok (.aload_n 0, 1) := by decide +kernel
theorem dX12_asked_29 : decode cX12_asked 29 = .ok (.iconst 1, 1) := by decide +kernel
theorem dX12_asked_30 : decode cX12_asked 30 = .ok (.aload_n 0, 1) := by decide +kernel
theorem dX12_asked_31 : decode cX12_asked 31 = .ok (.getfield 23, 3) := by decide +kernel
theorem dX12_asked_34 : decode cX12_asked 34 = .ok (.invokevirtual 286, 3) := by decide +kernel
theorem dX12_asked_37 : decode cX12_asked 37 = .ok (.aload_n 0, 1) := by decide +kernel
theorem dX12_asked_38 : decode cX12_asked 38 = .ok (.getfield 36, 3) := by decide +kernel
theorem dX12_asked_41 : decode cX12_asked 41 = .ok (.ifCond .le 7, 3) := by decide +kernel
theorem dX12_asked_44 : decode cX12_asked 44 = .ok (.iconst 0, 1) := by decide +kernel
theorem dX12_asked_45 : decode cX12_asked 45 = .ok (.goto 12, 3) := by decide +kernel
theorem dX12_asked_48 : decode cX12_asked 48 = .ok (.aload_n 0, 1) := by decide +kernel
theorem dX12_asked_49 : decode cX12_asked 49 = .ok (.iload_n 1, 1) := by decide +kernel
theorem dX12_asked_50 : decode cX12_asked 50 = .ok (.aload_n 0, 1) := by decide +kernel
theorem dX12_asked_51 : decode cX12_asked 51 = .ok (.getfield 32, 3) := by decide +kernel
theorem dX12_asked_54 : decode cX12_asked 54 = .ok (.invokevirtual 390, 3) := by decide +kernel
theorem dX12_asked_57 : decode cX12_asked 57 = .ok (.istore_n 2, 1) := by decide +kernel
theorem dX12_asked_58 : decode cX12_asked 58 = .ok (.aload_n 0, 1) := by decide +kernel
theorem dX12_asked_59 : decode cX12_asked 59 = .ok (.getfield 36, 3) := by decide +kernel
theorem dX12_asked_62 : decode cX12_asked 62 = .ok (.ifCond .ne 17, 3) := by decide +kernel
theorem dX12_asked_65 : decode cX12_asked 65 = .ok (.iload_n 2, 1) := by decide +kernel
theorem dX12_asked_66 : decode cX12_asked 66 = .ok (.iconst (-1), 1) := by decide +kernel
theorem dX12_asked_67 : decode cX12_asked 67 = .ok (.if_icmp .ne 12, 3) := by decide +kernel
theorem dX12_asked_70 : decode cX12_asked 70 = .ok (.aload_n 0, 1) := by decide +kernel
theorem dX12_asked_71 : decode cX12_asked 71 = .ok (.iconst 3, 1) := by decide +kernel
theorem dX12_asked_72 : decode cX12_asked 72 = .ok (.aload_n 0, 1) := by decide +kernel
theorem dX12_asked_73 : decode cX12_asked 73 = .ok (.getfield 23, 3) := by decide +kernel
theorem dX12_asked_76 : decode cX12_asked 76 = .ok (.invokevirtual 286, 3) := by decide +kernel
theorem dX12_asked_79 : decode cX12_asked 79 = .ok (.aload_n 0, 1) := by decide +kernel
theorem dX12_asked_80 : decode cX12_asked 80 = .ok (.getfield 36, 3) := by decide +kernel
theorem dX12_asked_83 : decode cX12_asked 83 = .ok (.ifCond .ne 7, 3) := by decide +kernel
theorem dX12_asked_86 : decode cX12_asked 86 = .ok (.aload_n 0, 1) := by decide +kernel
theorem dX12_asked_87 : decode cX12_asked 87 = .ok (.invokevirtual 293, 3) := by decide +kernel
theorem dX12_asked_90 : decode cX12_asked 90 = .ok (.aload_n 0, 1) := by decide +kernel
theorem dX12_asked_91 : decode cX12_asked 91 = .ok (.getfield 36, 3) := by decide +kernel
theorem dX12_asked_94 : decode cX12_asked 94 = .ok (.ifCond .le 7, 3) := by decide +kernel
theorem dX12_asked_97 : decode cX12_asked 97 = .ok (.iconst 0, 1) := by decide +kernel
theorem dX12_asked_98 : decode cX12_asked 98 = .ok (.goto 4, 3) := by decide +kernel
theorem dX12_asked_101 : decode cX12_asked 101 = .ok (.iload_n 2, 1) := by decide +kernel
theorem dX12_asked_102 : decode cX12_asked 102 = .ok (.ireturn, 1) := by decide +kernel
theorem dX12_bars_0 : decode cX12_bars 0 = .ok (.aload_n 0, 1) := by decide +kernel
theorem dX12_bars_1 : decode cX12_bars 1 = .ok (.getfield 36, 3) := by decide +kernel
theorem dX12_bars_4 : decode cX12_bars 4 = .ok (.ifCond .ne 49, 3) := by decide +kernel
theorem dX12_bars_7 : decode cX12_bars 7 = .ok (.aload_n 0, 1) := by decide +kernel
theorem dX12_bars_8 : decode cX12_bars 8 = .ok (.getfield 20, 3) := by decide +kernel
theorem dX12_bars_11 : decode cX12_bars 11 = .ok (.iconst 1, 1) := by decide +kernel
theorem dX12_bars_12 : decode cX12_bars 12 = .ok (.if_icmp .ne 41, 3) := by decide +kernel
theorem dX12_bars_15 : decode cX12_bars 15 = .ok (.aload_n 0, 1) := by decide +kernel
theorem dX12_bars_16 : decode cX12_bars 16 = .ok (.aload_n 0, 1) := by decide +kernel
theorem dX12_bars_17 : decode cX12_bars 17 = .ok (.getfield 32, 3) := by decide +kernel
theorem dX12_bars_20 : decode cX12_bars 20 = .ok (.invokevirtual 387, 3) := by decide +kernel
theorem dX12_bars_23 : decode cX12_bars 23 = .ok (.ifCond .ne 30, 3) := by decide +kernel
theorem dX12_bars_26 : decode cX12_bars 26 = .ok (.iload_n 2, 1) := by decide +kernel
theorem dX12_bars_27 : decode cX12_bars 27 = .ok (.iconst (-1), 1) := by decide +kernel
theorem dX12_bars_28 : decode cX12_bars 28 = .ok (.if_icmp .eq 25, 3) := by decide +kernel
theorem dX12_bars_31 : decode cX12_bars 31 = .ok (.aload_n 0, 1) := by decide +kernel
theorem dX12_bars_32 : decode cX12_bars 32 = .ok (.iload_n 1, 1) := by decide +kernel
theorem dX12_bars_33 : decode cX12_bars 33 = .ok (.aload_n 0, 1) := by decide +kernel
theorem dX12_bars_34 : decode cX12_bars 34 = .ok (.getfield 32, 3) := by decide +kernel
theorem dX12_bars_37 : decode cX12_bars 37 = .ok (.invokevirtual 390, 3) := by decide +kernel
theorem dX12_bars_40 : decode cX12_bars 40 = .ok (.iload_n 2, 1) := by decide +kernel
theorem dX12_bars_41 : decode cX12_bars 41 = .ok (.if_icmp .ne 12, 3) := by decide +kernel
theorem dX12_bars_44 : decode cX12_bars 44 = .ok (.aload_n 0, 1) := by decide +kernel
theorem dX12_bars_45 : decode cX12_bars 45 = .ok (.iconst 3, 1) := by decide +kernel
theorem dX12_bars_46 : decode cX12_bars 46 = .ok (.aload_n 0, 1) := by decide +kernel
theorem dX12_bars_47 : decode cX12_bars 47 = .ok (.getfield 23, 3) := by decide +kernel
theorem dX12_bars_50 : decode cX12_bars 50 = .ok (.invokevirtual 286, 3) := by decide +kernel
theorem dX12_bars_53 : decode cX12_bars 53 = .ok (.return_, 1) := by decide +kernel
theorem dX12_place_0 : decode cX12_place 0 = .ok (.aload_n 0, 1) := by decide +kernel
theorem dX12_place_1 : decode cX12_place 1 = .ok (.aload_n 0, 1) := by decide +kernel
theorem dX12_place_2 : decode cX12_place 2 = .ok (.getfield 51, 3) := by decide +kernel
theorem dX12_place_5 : decode cX12_place 5 = .ok (.aload_n 0, 1) := by decide +kernel
theorem dX12_place_6 : decode cX12_place 6 = .ok (.getfield 155, 3) := by decide +kernel
theorem dX12_place_9 : decode cX12_place 9 = .ok (.iaload, 1) := by decide +kernel
theorem dX12_place_10 : decode cX12_place 10 = .ok (.bipush 8, 2) := by decide +kernel
theorem dX12_place_12 : decode cX12_place 12 = .ok (.if_icmp .ne 7, 3) := by decide +kernel
theorem dX12_place_15 : decode cX12_place 15 = .ok (.iconst 1, 1) := by decide +kernel
theorem dX12_place_16 : decode cX12_place 16 = .ok (.goto 4, 3) := by decide +kernel
theorem dX12_place_19 : decode cX12_place 19 = .ok (.iconst 0, 1) := by decide +kernel
theorem dX12_place_20 : decode cX12_place 20 = .ok (.invokevirtual 394, 3) := by decide +kernel
theorem dX12_place_23 : decode cX12_place 23 = .ok (.ifCond .ne 4, 3) := by decide +kernel
theorem dX12_place_26 : decode cX12_place 26 = .ok (.return_, 1) := by decide +kernel
theorem dX12_place_27 : decode cX12_place 27 = .ok (.aload_n 0, 1) := by decide +kernel
theorem dX12_place_28 : decode cX12_place 28 = .ok (.getfield 54, 3) := by decide +kernel
theorem dX12_place_31 : decode cX12_place 31 = .ok (.bipush 8, 2) := by decide +kernel
theorem dX12_place_33 : decode cX12_place 33 = .ok (.aload_n 0, 1) := by decide +kernel
theorem dX12_place_34 : decode cX12_place 34 = .ok (.getfield 155, 3) := by decide +kernel
theorem dX12_place_37 : decode cX12_place 37 = .ok (.imul, 1) := by decide +kernel
theorem dX12_place_38 : decode cX12_place 38 = .ok (.aload_n 0, 1) := by decide +kernel
theorem dX12_place_39 : decode cX12_place 39 = .ok (.getfield 51, 3) := by decide +kernel
theorem dX12_place_42 : decode cX12_place 42 = .ok (.aload_n 0, 1) := by decide +kernel
theorem dX12_place_43 : decode cX12_place 43 = .ok (.getfield 155, 3) := by decide +kernel
theorem dX12_place_46 : decode cX12_place 46 = .ok (.iaload, 1) := by decide +kernel
theorem dX12_place_47 : decode cX12_place 47 = .ok (.iadd, 1) := by decide +kernel
theorem dX12_place_48 : decode cX12_place 48 = .ok (.aload_n 0, 1) := by decide +kernel
theorem dX12_place_49 : decode cX12_place 49 = .ok (.invokevirtual 398, 3) := by decide +kernel
theorem dX12_place_52 : decode cX12_place 52 = .ok (.lastore, 1) := by decide +kernel
theorem dX12_place_53 : decode cX12_place 53 = .ok (.aload_n 0, 1) := by decide +kernel
theorem dX12_place_54 : decode cX12_place 54 = .ok (.getfield 36, 3) := by decide +kernel
theorem dX12_place_57 : decode cX12_place 57 = .ok (.ifCond .ne 16, 3) := by decide +kernel
theorem dX12_place_60 : decode cX12_place 60 = .ok (.aload_n 0, 1) := by decide +kernel
theorem dX12_place_61 : decode cX12_place 61 = .ok (.getfield 51, 3) := by decide +kernel
theorem dX12_place_64 : decode cX12_place 64 = .ok (.aload_n 0, 1) := by decide +kernel
theorem dX12_place_65 : decode cX12_place 65 = .ok (.getfield 155, 3) := by decide +kernel
theorem dX12_place_68 : decode cX12_place 68 = .ok (.dup2, 1) := by decide +kernel
theorem dX12_place_69 : decode cX12_place 69 = .ok (.iaload, 1) := by decide +kernel
theorem dX12_place_70 : decode cX12_place 70 = .ok (.iconst 1, 1) := by decide +kernel
theorem dX12_place_71 : decode cX12_place 71 = .ok (.iadd, 1) := by decide +kernel
theorem dX12_place_72 : decode cX12_place 72 = .ok (.iastore, 1) := by decide +kernel
theorem dX12_place_73 : decode cX12_place 73 = .ok (.return_, 1) := by decide +kernel
theorem dX12_within_0 : decode cX12_within 0 = .ok (.aload_n 0, 1) := by decide +kernel
theorem dX12_within_1 : decode cX12_within 1 = .ok (.ldc2_w 306, 3) := by decide +kernel
theorem dX12_within_4 : decode cX12_within 4 = .ok (.invokevirtual 402, 3) := by decide +kernel
theorem dX12_within_7 : decode cX12_within 7 = .ok (.aload_n 0, 1) := by decide +kernel
theorem dX12_within_8 : decode cX12_within 8 = .ok (.getfield 36, 3) := by decide +kernel
theorem dX12_within_11 : decode cX12_within 11 = .ok (.ifCond .le 5, 3) := by decide +kernel
theorem dX12_within_14 : decode cX12_within 14 = .ok (.iconst 0, 1) := by decide +kernel
theorem dX12_within_15 : decode cX12_within 15 = .ok (.ireturn, 1) := by decide +kernel
theorem dX12_within_16 : decode cX12_within 16 = .ok (.aload_n 0, 1) := by decide +kernel
theorem dX12_within_17 : decode cX12_within 17 = .ok (.getfield 20, 3) := by decide +kernel
theorem dX12_within_20 : decode cX12_within 20 = .ok (.iconst 1, 1) := by decide +kernel
theorem dX12_within_21 : decode cX12_within 21 = .ok (.if_icmp .ne 26, 3) := by decide +kernel
theorem dX12_within_24 : decode cX12_within 24 = .ok (.aload_n 0, 1) := by decide +kernel
theorem dX12_within_25 : decode cX12_within 25 = .ok (.aload_n 0, 1) := by decide +kernel
theorem dX12_within_26 : decode cX12_within 26 = .ok (.getfield 32, 3) := by decide +kernel
theorem dX12_within_29 : decode cX12_within 29 = .ok (.invokevirtual 387, 3) := by decide +kernel
theorem dX12_within_32 : decode cX12_within 32 = .ok (.ifCond .ne 15, 3) := by decide +kernel
theorem dX12_within_35 : decode cX12_within 35 = .ok (.aload_n 0, 1) := by decide +kernel
theorem dX12_within_36 : decode cX12_within 36 = .ok (.iconst 1, 1) := by decide +kernel
theorem dX12_within_37 : decode cX12_within 37 = .ok (.aload_n 0, 1) := by decide +kernel
theorem dX12_within_38 : decode cX12_within 38 = .ok (.getfield 32, 3) := by decide +kernel
theorem dX12_within_41 : decode cX12_within 41 = .ok (.invokevirtual 390, 3) := by decide +kernel
theorem dX12_within_44 : decode cX12_within 44 = .ok (.goto 4, 3) := by decide +kernel
theorem dX12_within_47 : decode cX12_within 47 = .ok (.iconst (-1), 1) := by decide +kernel
theorem dX12_within_48 : decode cX12_within 48 = .ok (.istore_n 1, 1) := by decide +kernel
theorem dX12_within_49 : decode cX12_within 49 = .ok (.iload_n 1, 1) := by decide +kernel
theorem dX12_within_50 : decode cX12_within 50 = .ok (.iconst (-1), 1) := by decide +kernel
theorem dX12_within_51 : decode cX12_within 51 = .ok (.if_icmp .eq 20, 3) := by decide +kernel
theorem dX12_within_54 : decode cX12_within 54 = .ok (.aload_n 0, 1) := by decide +kernel
theorem dX12_within_55 : decode cX12_within 55 = .ok (.getfield 70, 3) := by decide +kernel
theorem dX12_within_58 : decode cX12_within 58 = .ok (.bipush 10, 2) := by decide +kernel
theorem dX12_within_60 : decode cX12_within 60 = .ok (.aload_n 0, 1) := by decide +kernel
theorem dX12_within_61 : decode cX12_within 61 = .ok (.getfield 155, 3) := by decide +kernel
theorem dX12_within_64 : decode cX12_within 64 = .ok (.imul, 1) := by decide +kernel
theorem dX12_within_65 : decode cX12_within 65 = .ok (.iload_n 1, 1) := by decide +kernel
theorem dX12_within_66 : decode cX12_within 66 = .ok (.iadd, 1) := by decide +kernel
theorem dX12_within_67 : decode cX12_within 67 = .ok (.baload, 1) := by decide +kernel
theorem dX12_within_68 : decode cX12_within 68 = .ok (.ifCond .ne 12, 3) := by decide +kernel
theorem dX12_within_71 : decode cX12_within 71 = .ok (.bipush 10, 2) := by decide +kernel
theorem dX12_within_73 : decode cX12_within 73 = .ok (.aload_n 0, 1) := by decide +kernel
theorem dX12_within_74 : decode cX12_within 74 = .ok (.iconst 0, 1) := by decide +kernel
theorem dX12_within_75 : decode cX12_within 75 = .ok (.invokevirtual 406, 3) := by decide +kernel
theorem dX12_within_78 : decode cX12_within 78 = .ok (.iadd, 1) := by decide +kernel
theorem dX12_within_79 : decode cX12_within 79 = .ok (.ireturn, 1) := by decide +kernel
theorem dX12_within_80 : decode cX12_within 80 = .ok (.aload_n 0, 1) := by decide +kernel
theorem dX12_within_81 : decode cX12_within 81 = .ok (.invokevirtual 293, 3) := by decide +kernel
theorem dX12_within_84 : decode cX12_within 84 = .ok (.bipush 20, 2) := by decide +kernel
theorem dX12_within_86 : decode cX12_within 86 = .ok (.iload_n 1, 1) := by decide +kernel
theorem dX12_within_87 : decode cX12_within 87 = .ok (.iadd, 1) := by decide +kernel
theorem dX12_within_88 : decode cX12_within 88 = .ok (.ireturn, 1) := by decide +kernel
