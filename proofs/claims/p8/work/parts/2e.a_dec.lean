theorem dX2_firstCrossing_0 : decode cX2_firstCrossing 0 = .ok (.iconst 0, 1) := by decide +kernel
theorem dX2_firstCrossing_1 : decode cX2_firstCrossing 1 = .ok (.istore_n 3, 1) := by decide +kernel
theorem dX2_firstCrossing_2 : decode cX2_firstCrossing 2 = .ok (.iload_n 3, 1) := by decide +kernel
theorem dX2_firstCrossing_3 : decode cX2_firstCrossing 3 = .ok (.aload_n 1, 1) := by decide +kernel
theorem dX2_firstCrossing_4 : decode cX2_firstCrossing 4 = .ok (.getfield 15, 3) := by decide +kernel
theorem dX2_firstCrossing_7 : decode cX2_firstCrossing 7 = .ok (.bipush 6, 2) := by decide +kernel
theorem dX2_firstCrossing_9 : decode cX2_firstCrossing 9 = .ok (.iaload, 1) := by decide +kernel
theorem dX2_firstCrossing_10 : decode cX2_firstCrossing 10 = .ok (.if_icmp .ge 57, 3) := by decide +kernel
theorem dX2_firstCrossing_13 : decode cX2_firstCrossing 13 = .ok (.iconst 0, 1) := by decide +kernel
theorem dX2_firstCrossing_14 : decode cX2_firstCrossing 14 = .ok (.istore 4, 2) := by decide +kernel
theorem dX2_firstCrossing_16 : decode cX2_firstCrossing 16 = .ok (.iload 4, 2) := by decide +kernel
theorem dX2_firstCrossing_18 : decode cX2_firstCrossing 18 = .ok (.aload_n 1, 1) := by decide +kernel
theorem dX2_firstCrossing_19 : decode cX2_firstCrossing 19 = .ok (.getfield 15, 3) := by decide +kernel
theorem dX2_firstCrossing_22 : decode cX2_firstCrossing 22 = .ok (.bipush 6, 2) := by decide +kernel
theorem dX2_firstCrossing_24 : decode cX2_firstCrossing 24 = .ok (.iaload, 1) := by decide +kernel
theorem dX2_firstCrossing_25 : decode cX2_firstCrossing 25 = .ok (.if_icmp .ge 36, 3) := by decide +kernel
theorem dX2_firstCrossing_28 : decode cX2_firstCrossing 28 = .ok (.iload_n 3, 1) := by decide +kernel
theorem dX2_firstCrossing_29 : decode cX2_firstCrossing 29 = .ok (.iload 4, 2) := by decide +kernel
theorem dX2_firstCrossing_31 : decode cX2_firstCrossing 31 = .ok (.if_icmp .eq 24, 3) := by decide +kernel
theorem dX2_firstCrossing_34 : decode cX2_firstCrossing 34 = .ok (.aload_n 1, 1) := by decide +kernel
theorem dX2_firstCrossing_35 : decode cX2_firstCrossing 35 = .ok (.iload_n 3, 1) := by decide +kernel
theorem dX2_firstCrossing_36 : decode cX2_firstCrossing 36 = .ok (.iload 4, 2) := by decide +kernel
theorem dX2_firstCrossing_38 : decode cX2_firstCrossing 38 = .ok (.invokestatic 20, 3) := by decide +kernel
theorem dX2_firstCrossing_41 : decode cX2_firstCrossing 41 = .ok (.ifCond .eq 14, 3) := by decide +kernel
theorem dX2_firstCrossing_44 : decode cX2_firstCrossing 44 = .ok (.iload_n 2, 1) := by decide +kernel
theorem dX2_firstCrossing_45 : decode cX2_firstCrossing 45 = .ok (.ifCond .eq 8, 3) := by decide +kernel
theorem dX2_firstCrossing_48 : decode cX2_firstCrossing 48 = .ok (.iload 4, 2) := by decide +kernel
theorem dX2_firstCrossing_50 : decode cX2_firstCrossing 50 = .ok (.goto 4, 3) := by decide +kernel
theorem dX2_firstCrossing_53 : decode cX2_firstCrossing 53 = .ok (.iload_n 3, 1) := by decide +kernel
theorem dX2_firstCrossing_54 : decode cX2_firstCrossing 54 = .ok (.ireturn, 1) := by decide +kernel
theorem dX2_firstCrossing_55 : decode cX2_firstCrossing 55 = .ok (.iinc 4 1, 3) := by decide +kernel
theorem dX2_firstCrossing_58 : decode cX2_firstCrossing 58 = .ok (.goto (-42), 3) := by decide +kernel
theorem dX2_firstCrossing_61 : decode cX2_firstCrossing 61 = .ok (.iinc 3 1, 3) := by decide +kernel
theorem dX2_firstCrossing_64 : decode cX2_firstCrossing 64 = .ok (.goto (-62), 3) := by decide +kernel
theorem dX2_firstCrossing_67 : decode cX2_firstCrossing 67 = .ok (.iconst (-1), 1) := by decide +kernel
theorem dX2_firstCrossing_68 : decode cX2_firstCrossing 68 = .ok (.ireturn, 1) := by decide +kernel
theorem dX2_fewestKeys_0 : decode cX2_fewestKeys 0 = .ok (.iconst 0, 1) := by decide +kernel
theorem dX2_fewestKeys_1 : decode cX2_fewestKeys 1 = .ok (.istore_n 2, 1) := by decide +kernel
theorem dX2_fewestKeys_2 : decode cX2_fewestKeys 2 = .ok (.iload_n 2, 1) := by decide +kernel
theorem dX2_fewestKeys_3 : decode cX2_fewestKeys 3 = .ok (.bipush 6, 2) := by decide +kernel
theorem dX2_fewestKeys_5 : decode cX2_fewestKeys 5 = .ok (.if_icmp .gt 21, 3) := by decide +kernel
theorem dX2_fewestKeys_8 : decode cX2_fewestKeys 8 = .ok (.aload_n 0, 1) := by decide +kernel
theorem dX2_fewestKeys_9 : decode cX2_fewestKeys 9 = .ok (.aload_n 1, 1) := by decide +kernel
theorem dX2_fewestKeys_10 : decode cX2_fewestKeys 10 = .ok (.iconst 0, 1) := by decide +kernel
theorem dX2_fewestKeys_11 : decode cX2_fewestKeys 11 = .ok (.iload_n 2, 1) := by decide +kernel
theorem dX2_fewestKeys_12 : decode cX2_fewestKeys 12 = .ok (.invokevirtual 24, 3) := by decide +kernel
theorem dX2_fewestKeys_15 : decode cX2_fewestKeys 15 = .ok (.ifCond .eq 5, 3) := by decide +kernel
theorem dX2_fewestKeys_18 : decode cX2_fewestKeys 18 = .ok (.iload_n 2, 1) := by decide +kernel
theorem dX2_fewestKeys_19 : decode cX2_fewestKeys 19 = .ok (.ireturn, 1) := by decide +kernel
theorem dX2_fewestKeys_20 : decode cX2_fewestKeys 20 = .ok (.iinc 2 1, 3) := by decide +kernel
theorem dX2_fewestKeys_23 : decode cX2_fewestKeys 23 = .ok (.goto (-21), 3) := by decide +kernel
theorem dX2_fewestKeys_26 : decode cX2_fewestKeys 26 = .ok (.iconst (-1), 1) := by decide +kernel
theorem dX2_fewestKeys_27 : decode cX2_fewestKeys 27 = .ok (.ireturn, 1) := by decide +kernel
theorem dX2_giveKeys_0 : decode cX2_giveKeys 0 = .ok (.iload_n 2, 1) := by decide +kernel
theorem dX2_giveKeys_1 : decode cX2_giveKeys 1 = .ok (.aload_n 1, 1) := by decide +kernel
theorem dX2_giveKeys_2 : decode cX2_giveKeys 2 = .ok (.getfield 15, 3) := by decide +kernel
theorem dX2_giveKeys_5 : decode cX2_giveKeys 5 = .ok (.bipush 6, 2) := by decide +kernel
theorem dX2_giveKeys_7 : decode cX2_giveKeys 7 = .ok (.iaload, 1) := by decide +kernel
theorem dX2_giveKeys_8 : decode cX2_giveKeys 8 = .ok (.if_icmp .ge 9, 3) := by decide +kernel
theorem dX2_giveKeys_11 : decode cX2_giveKeys 11 = .ok (.iload_n 2, 1) := by decide +kernel
theorem dX2_giveKeys_12 : decode cX2_giveKeys 12 = .ok (.bipush 6, 2) := by decide +kernel
theorem dX2_giveKeys_14 : decode cX2_giveKeys 14 = .ok (.if_icmp .lt 5, 3) := by decide +kernel
theorem dX2_giveKeys_17 : decode cX2_giveKeys 17 = .ok (.iconst 1, 1) := by decide +kernel
theorem dX2_giveKeys_18 : decode cX2_giveKeys 18 = .ok (.ireturn, 1) := by decide +kernel
theorem dX2_giveKeys_19 : decode cX2_giveKeys 19 = .ok (.iconst 0, 1) := by decide +kernel
theorem dX2_giveKeys_20 : decode cX2_giveKeys 20 = .ok (.istore 4, 2) := by decide +kernel
theorem dX2_giveKeys_22 : decode cX2_giveKeys 22 = .ok (.iload 4, 2) := by decide +kernel
theorem dX2_giveKeys_24 : decode cX2_giveKeys 24 = .ok (.iload_n 3, 1) := by decide +kernel
theorem dX2_giveKeys_25 : decode cX2_giveKeys 25 = .ok (.if_icmp .ge 42, 3) := by decide +kernel
theorem dX2_giveKeys_28 : decode cX2_giveKeys 28 = .ok (.aload_n 0, 1) := by decide +kernel
theorem dX2_giveKeys_29 : decode cX2_giveKeys 29 = .ok (.aload_n 1, 1) := by decide +kernel
theorem dX2_giveKeys_30 : decode cX2_giveKeys 30 = .ok (.iload_n 2, 1) := by decide +kernel
theorem dX2_giveKeys_31 : decode cX2_giveKeys 31 = .ok (.iload 4, 2) := by decide +kernel
theorem dX2_giveKeys_33 : decode cX2_giveKeys 33 = .ok (.invokevirtual 27, 3) := by decide +kernel
theorem dX2_giveKeys_36 : decode cX2_giveKeys 36 = .ok (.ifCond .eq 25, 3) := by decide +kernel
theorem dX2_giveKeys_39 : decode cX2_giveKeys 39 = .ok (.aload_n 0, 1) := by decide +kernel
theorem dX2_giveKeys_40 : decode cX2_giveKeys 40 = .ok (.getfield 9, 3) := by decide +kernel
theorem dX2_giveKeys_43 : decode cX2_giveKeys 43 = .ok (.iload_n 2, 1) := by decide +kernel
theorem dX2_giveKeys_44 : decode cX2_giveKeys 44 = .ok (.iload 4, 2) := by decide +kernel
theorem dX2_giveKeys_46 : decode cX2_giveKeys 46 = .ok (.iastore, 1) := by decide +kernel
theorem dX2_giveKeys_47 : decode cX2_giveKeys 47 = .ok (.aload_n 0, 1) := by decide +kernel
theorem dX2_giveKeys_48 : decode cX2_giveKeys 48 = .ok (.aload_n 1, 1) := by decide +kernel
theorem dX2_giveKeys_49 : decode cX2_giveKeys 49 = .ok (.iload_n 2, 1) := by decide +kernel
theorem dX2_giveKeys_50 : decode cX2_giveKeys 50 = .ok (.iconst 1, 1) := by decide +kernel
theorem dX2_giveKeys_51 : decode cX2_giveKeys 51 = .ok (.iadd, 1) := by decide +kernel
theorem dX2_giveKeys_52 : decode cX2_giveKeys 52 = .ok (.iload_n 3, 1) := by decide +kernel
theorem dX2_giveKeys_53 : decode cX2_giveKeys 53 = .ok (.invokevirtual 24, 3) := by decide +kernel
theorem dX2_giveKeys_56 : decode cX2_giveKeys 56 = .ok (.ifCond .eq 5, 3) := by decide +kernel
theorem dX2_giveKeys_59 : decode cX2_giveKeys 59 = .ok (.iconst 1, 1) := by decide +kernel
theorem dX2_giveKeys_60 : decode cX2_giveKeys 60 = .ok (.ireturn, 1) := by decide +kernel
theorem dX2_giveKeys_61 : decode cX2_giveKeys 61 = .ok (.iinc 4 1, 3) := by decide +kernel
theorem dX2_giveKeys_64 : decode cX2_giveKeys 64 = .ok (.goto (-42), 3) := by decide +kernel
theorem dX2_giveKeys_67 : decode cX2_giveKeys 67 = .ok (.iconst 0, 1) := by decide +kernel
theorem dX2_giveKeys_68 : decode cX2_giveKeys 68 = .ok (.ireturn, 1) := by decide +kernel
theorem dX2_canTake_0 : decode cX2_canTake 0 = .ok (.iconst 0, 1) := by decide +kernel
theorem dX2_canTake_1 : decode cX2_canTake 1 = .ok (.istore 4, 2) := by decide +kernel
theorem dX2_canTake_3 : decode cX2_canTake 3 = .ok (.iload 4, 2) := by decide +kernel
theorem dX2_canTake_5 : decode cX2_canTake 5 = .ok (.iload_n 2, 1) := by decide +kernel
theorem dX2_canTake_6 : decode cX2_canTake 6 = .ok (.if_icmp .ge 39, 3) := by decide +kernel
theorem dX2_canTake_9 : decode cX2_canTake 9 = .ok (.iload 4, 2) := by decide +kernel
theorem dX2_canTake_11 : decode cX2_canTake 11 = .ok (.bipush 6, 2) := by decide +kernel
theorem dX2_canTake_13 : decode cX2_canTake 13 = .ok (.if_icmp .ge 32, 3) := by decide +kernel
theorem dX2_canTake_16 : decode cX2_canTake 16 = .ok (.aload_n 0, 1) := by decide +kernel
theorem dX2_canTake_17 : decode cX2_canTake 17 = .ok (.getfield 9, 3) := by decide +kernel
theorem dX2_canTake_20 : decode cX2_canTake 20 = .ok (.iload 4, 2) := by decide +kernel
theorem dX2_canTake_22 : decode cX2_canTake 22 = .ok (.iaload, 1) := by decide +kernel
theorem dX2_canTake_23 : decode cX2_canTake 23 = .ok (.iload_n 3, 1) := by decide +kernel
theorem dX2_canTake_24 : decode cX2_canTake 24 = .ok (.if_icmp .ne 15, 3) := by decide +kernel
theorem dX2_canTake_27 : decode cX2_canTake 27 = .ok (.aload_n 1, 1) := by decide +kernel
theorem dX2_canTake_28 : decode cX2_canTake 28 = .ok (.iload 4, 2) := by decide +kernel
theorem dX2_canTake_30 : decode cX2_canTake 30 = .ok (.iload_n 2, 1) := by decide +kernel
theorem dX2_canTake_31 : decode cX2_canTake 31 = .ok (.invokestatic 20, 3) := by decide +kernel
theorem dX2_canTake_34 : decode cX2_canTake 34 = .ok (.ifCond .eq 5, 3) := by decide +kernel
theorem dX2_canTake_37 : decode cX2_canTake 37 = .ok (.iconst 0, 1) := by decide +kernel
theorem dX2_canTake_38 : decode cX2_canTake 38 = .ok (.ireturn, 1) := by decide +kernel
theorem dX2_canTake_39 : decode cX2_canTake 39 = .ok (.iinc 4 1, 3) := by decide +kernel
theorem dX2_canTake_42 : decode cX2_canTake 42 = .ok (.goto (-39), 3) := by decide +kernel
theorem dX2_canTake_45 : decode cX2_canTake 45 = .ok (.iconst 1, 1) := by decide +kernel
theorem dX2_canTake_46 : decode cX2_canTake 46 = .ok (.ireturn, 1) := by decide +kernel
theorem dX2_inOrder_0 : decode cX2_inOrder 0 = .ok (.iconst 0, 1) := by decide +kernel
theorem dX2_inOrder_1 : decode cX2_inOrder 1 = .ok (.istore_n 3, 1) := by decide +kernel
theorem dX2_inOrder_2 : decode cX2_inOrder 2 = .ok (.iload_n 3, 1) := by decide +kernel
theorem dX2_inOrder_3 : decode cX2_inOrder 3 = .ok (.aload_n 1, 1) := by decide +kernel
theorem dX2_inOrder_4 : decode cX2_inOrder 4 = .ok (.getfield 15, 3) := by decide +kernel
theorem dX2_inOrder_7 : decode cX2_inOrder 7 = .ok (.bipush 6, 2) := by decide +kernel
theorem dX2_inOrder_9 : decode cX2_inOrder 9 = .ok (.iaload, 1) := by decide +kernel
theorem dX2_inOrder_10 : decode cX2_inOrder 10 = .ok (.if_icmp .ge 54, 3) := by decide +kernel
theorem dX2_inOrder_13 : decode cX2_inOrder 13 = .ok (.iconst 0, 1) := by decide +kernel
theorem dX2_inOrder_14 : decode cX2_inOrder 14 = .ok (.istore 4, 2) := by decide +kernel
theorem dX2_inOrder_16 : decode cX2_inOrder 16 = .ok (.iconst 0, 1) := by decide +kernel
theorem dX2_inOrder_17 : decode cX2_inOrder 17 = .ok (.istore 5, 2) := by decide +kernel
theorem dX2_inOrder_19 : decode cX2_inOrder 19 = .ok (.iload 5, 2) := by decide +kernel
theorem dX2_inOrder_21 : decode cX2_inOrder 21 = .ok (.aload_n 1, 1) := by decide +kernel
theorem dX2_inOrder_22 : decode cX2_inOrder 22 = .ok (.getfield 15, 3) := by decide +kernel
theorem dX2_inOrder_25 : decode cX2_inOrder 25 = .ok (.bipush 6, 2) := by decide +kernel
theorem dX2_inOrder_27 : decode cX2_inOrder 27 = .ok (.iaload, 1) := by decide +kernel
theorem dX2_inOrder_28 : decode cX2_inOrder 28 = .ok (.if_icmp .ge 22, 3) := by decide +kernel
theorem dX2_inOrder_31 : decode cX2_inOrder 31 = .ok (.aload_n 1, 1) := by decide +kernel
theorem dX2_inOrder_32 : decode cX2_inOrder 32 = .ok (.iload 5, 2) := by decide +kernel
theorem dX2_inOrder_34 : decode cX2_inOrder 34 = .ok (.iload_n 3, 1) := by decide +kernel
theorem dX2_inOrder_35 : decode cX2_inOrder 35 = .ok (.invokestatic 43, 3) := by decide +kernel
theorem dX2_inOrder_38 : decode cX2_inOrder 38 = .ok (.ifCond .eq 6, 3) := by decide +kernel
theorem dX2_inOrder_41 : decode cX2_inOrder 41 = .ok (.iinc 4 1, 3) := by decide +kernel
theorem dX2_inOrder_44 : decode cX2_inOrder 44 = .ok (.iinc 5 1, 3) := by decide +kernel
theorem dX2_inOrder_47 : decode cX2_inOrder 47 = .ok (.goto (-28), 3) := by decide +kernel
theorem dX2_inOrder_50 : decode cX2_inOrder 50 = .ok (.iload 4, 2) := by decide +kernel
theorem dX2_inOrder_52 : decode cX2_inOrder 52 = .ok (.iload_n 2, 1) := by decide +kernel
theorem dX2_inOrder_53 : decode cX2_inOrder 53 = .ok (.if_icmp .ne 5, 3) := by decide +kernel
theorem dX2_inOrder_56 : decode cX2_inOrder 56 = .ok (.iload_n 3, 1) := by decide +kernel
theorem dX2_inOrder_57 : decode cX2_inOrder 57 = .ok (.ireturn, 1) := by decide +kernel
theorem dX2_inOrder_58 : decode cX2_inOrder 58 = .ok (.iinc 3 1, 3) := by decide +kernel
theorem dX2_inOrder_61 : decode cX2_inOrder 61 = .ok (.goto (-59), 3) := by decide +kernel
theorem dX2_inOrder_64 : decode cX2_inOrder 64 = .ok (.iconst (-1), 1) := by decide +kernel
theorem dX2_inOrder_65 : decode cX2_inOrder 65 = .ok (.ireturn, 1) := by decide +kernel
theorem dX2_isAhead_0 : decode cX2_isAhead 0 = .ok (.aload_n 0, 1) := by decide +kernel
theorem dX2_isAhead_1 : decode cX2_isAhead 1 = .ok (.getfield 34, 3) := by decide +kernel
theorem dX2_isAhead_4 : decode cX2_isAhead 4 = .ok (.iload_n 1, 1) := by decide +kernel
theorem dX2_isAhead_5 : decode cX2_isAhead 5 = .ok (.iaload, 1) := by decide +kernel
theorem dX2_isAhead_6 : decode cX2_isAhead 6 = .ok (.aload_n 0, 1) := by decide +kernel
theorem dX2_isAhead_7 : decode cX2_isAhead 7 = .ok (.getfield 34, 3) := by decide +kernel
theorem dX2_isAhead_10 : decode cX2_isAhead 10 = .ok (.iload_n 2, 1) := by decide +kernel
theorem dX2_isAhead_11 : decode cX2_isAhead 11 = .ok (.iaload, 1) := by decide +kernel
theorem dX2_isAhead_12 : decode cX2_isAhead 12 = .ok (.if_icmp .eq 24, 3) := by decide +kernel
theorem dX2_isAhead_15 : decode cX2_isAhead 15 = .ok (.aload_n 0, 1) := by decide +kernel
theorem dX2_isAhead_16 : decode cX2_isAhead 16 = .ok (.getfield 34, 3) := by decide +kernel
theorem dX2_isAhead_19 : decode cX2_isAhead 19 = .ok (.iload_n 1, 1) := by decide +kernel
theorem dX2_isAhead_20 : decode cX2_isAhead 20 = .ok (.iaload, 1) := by decide +kernel
theorem dX2_isAhead_21 : decode cX2_isAhead 21 = .ok (.aload_n 0, 1) := by decide +kernel
theorem dX2_isAhead_22 : decode cX2_isAhead 22 = .ok (.getfield 34, 3) := by decide +kernel
theorem dX2_isAhead_25 : decode cX2_isAhead 25 = .ok (.iload_n 2, 1) := by decide +kernel
theorem dX2_isAhead_26 : decode cX2_isAhead 26 = .ok (.iaload, 1) := by decide +kernel
theorem dX2_isAhead_27 : decode cX2_isAhead 27 = .ok (.if_icmp .ge 7, 3) := by decide +kernel
theorem dX2_isAhead_30 : decode cX2_isAhead 30 = .ok (.iconst 1, 1) := by decide +kernel
theorem dX2_isAhead_31 : decode cX2_isAhead 31 = .ok (.goto 4, 3) := by decide +kernel
theorem dX2_isAhead_34 : decode cX2_isAhead 34 = .ok (.iconst 0, 1) := by decide +kernel
theorem dX2_isAhead_35 : decode cX2_isAhead 35 = .ok (.ireturn, 1) := by decide +kernel
theorem dX2_isAhead_36 : decode cX2_isAhead 36 = .ok (.aload_n 0, 1) := by decide +kernel
theorem dX2_isAhead_37 : decode cX2_isAhead 37 = .ok (.getfield 37, 3) := by decide +kernel
theorem dX2_isAhead_40 : decode cX2_isAhead 40 = .ok (.iload_n 1, 1) := by decide +kernel
theorem dX2_isAhead_41 : decode cX2_isAhead 41 = .ok (.iaload, 1) := by decide +kernel
theorem dX2_isAhead_42 : decode cX2_isAhead 42 = .ok (.aload_n 0, 1) := by decide +kernel
theorem dX2_isAhead_43 : decode cX2_isAhead 43 = .ok (.getfield 37, 3) := by decide +kernel
theorem dX2_isAhead_46 : decode cX2_isAhead 46 = .ok (.iload_n 2, 1) := by decide +kernel
theorem dX2_isAhead_47 : decode cX2_isAhead 47 = .ok (.iaload, 1) := by decide +kernel
theorem dX2_isAhead_48 : decode cX2_isAhead 48 = .ok (.if_icmp .eq 24, 3) := by decide +kernel
theorem dX2_isAhead_51 : decode cX2_isAhead 51 = .ok (.aload_n 0, 1) := by decide +kernel
theorem dX2_isAhead_52 : decode cX2_isAhead 52 = .ok (.getfield 37, 3) := by decide +kernel
theorem dX2_isAhead_55 : decode cX2_isAhead 55 = .ok (.iload_n 1, 1) := by decide +kernel
theorem dX2_isAhead_56 : decode cX2_isAhead 56 = .ok (.iaload, 1) := by decide +kernel
theorem dX2_isAhead_57 : decode cX2_isAhead 57 = .ok (.aload_n 0, 1) := by decide +kernel
theorem dX2_isAhead_58 : decode cX2_isAhead 58 = .ok (.getfield 37, 3) := by decide +kernel
theorem dX2_isAhead_61 : decode cX2_isAhead 61 = .ok (.iload_n 2, 1) := by decide +kernel
theorem dX2_isAhead_62 : decode cX2_isAhead 62 = .ok (.iaload, 1) := by decide +kernel
theorem dX2_isAhead_63 : decode cX2_isAhead 63 = .ok (.if_icmp .le 7, 3) := by decide +kernel
theorem dX2_isAhead_66 : decode cX2_isAhead 66 = .ok (.iconst 1, 1) := by decide +kernel
theorem dX2_isAhead_67 : decode cX2_isAhead 67 = .ok (.goto 4, 3) := by decide +kernel
theorem dX2_isAhead_70 : decode cX2_isAhead 70 = .ok (.iconst 0, 1) := by decide +kernel
theorem dX2_isAhead_71 : decode cX2_isAhead 71 = .ok (.ireturn, 1) := by decide +kernel
theorem dX2_isAhead_72 : decode cX2_isAhead 72 = .ok (.iload_n 1, 1) := by decide +kernel
theorem dX2_isAhead_73 : decode cX2_isAhead 73 = .ok (.iload_n 2, 1) := by decide +kernel
theorem dX2_isAhead_74 : decode cX2_isAhead 74 = .ok (.if_icmp .ge 7, 3) := by decide +kernel
theorem dX2_isAhead_77 : decode cX2_isAhead 77 = .ok (.iconst 1, 1) := by decide +kernel
theorem dX2_isAhead_78 : decode cX2_isAhead 78 = .ok (.goto 4, 3) := by decide +kernel
theorem dX2_isAhead_81 : decode cX2_isAhead 81 = .ok (.iconst 0, 1) := by decide +kernel
theorem dX2_isAhead_82 : decode cX2_isAhead 82 = .ok (.ireturn, 1) := by decide +kernel
