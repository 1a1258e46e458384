theorem dX9_layDown_0 : decode cX9_layDown 0 = .ok (.aload_n 0, 1) := by decide +kernel
theorem dX9_layDown_1 : decode cX9_layDown 1 = .ok (.iload_n 1, 1) := by decide +kernel
theorem dX9_layDown_2 : decode cX9_layDown 2 = .ok (.iload_n 2, 1) := by decide +kernel
theorem dX9_layDown_3 : decode cX9_layDown 3 = .ok (.invokevirtual 131, 3) := by decide +kernel
theorem dX9_layDown_6 : decode cX9_layDown 6 = .ok (.ifCond .ne 5, 3) := by decide +kernel
theorem dX9_layDown_9 : decode cX9_layDown 9 = .ok (.iconst 0, 1) := by decide +kernel
theorem dX9_layDown_10 : decode cX9_layDown 10 = .ok (.ireturn, 1) := by decide +kernel
theorem dX9_layDown_11 : decode cX9_layDown 11 = .ok (.aload_n 0, 1) := by decide +kernel
theorem dX9_layDown_12 : decode cX9_layDown 12 = .ok (.getfield 63, 3) := by decide +kernel
theorem dX9_layDown_15 : decode cX9_layDown 15 = .ok (.getfield 87, 3) := by decide +kernel
theorem dX9_layDown_18 : decode cX9_layDown 18 = .ok (.iload_n 1, 1) := by decide +kernel
theorem dX9_layDown_19 : decode cX9_layDown 19 = .ok (.iaload, 1) := by decide +kernel
theorem dX9_layDown_20 : decode cX9_layDown 20 = .ok (.istore 4, 2) := by decide +kernel
theorem dX9_layDown_22 : decode cX9_layDown 22 = .ok (.iload_n 3, 1) := by decide +kernel
theorem dX9_layDown_23 : decode cX9_layDown 23 = .ok (.iconst (-1), 1) := by decide +kernel
theorem dX9_layDown_24 : decode cX9_layDown 24 = .ok (.if_icmp .eq 15, 3) := by decide +kernel
theorem dX9_layDown_27 : decode cX9_layDown 27 = .ok (.aload_n 0, 1) := by decide +kernel
theorem dX9_layDown_28 : decode cX9_layDown 28 = .ok (.iload_n 3, 1) := by decide +kernel
theorem dX9_layDown_29 : decode cX9_layDown 29 = .ok (.iload 4, 2) := by decide +kernel
theorem dX9_layDown_31 : decode cX9_layDown 31 = .ok (.invokevirtual 140, 3) := by decide +kernel
theorem dX9_layDown_34 : decode cX9_layDown 34 = .ok (.ifCond .ne 5, 3) := by decide +kernel
theorem dX9_layDown_37 : decode cX9_layDown 37 = .ok (.iconst 0, 1) := by decide +kernel
theorem dX9_layDown_38 : decode cX9_layDown 38 = .ok (.ireturn, 1) := by decide +kernel
theorem dX9_layDown_39 : decode cX9_layDown 39 = .ok (.aload_n 0, 1) := by decide +kernel
theorem dX9_layDown_40 : decode cX9_layDown 40 = .ok (.getfield 63, 3) := by decide +kernel
theorem dX9_layDown_43 : decode cX9_layDown 43 = .ok (.getfield 84, 3) := by decide +kernel
theorem dX9_layDown_46 : decode cX9_layDown 46 = .ok (.iload_n 2, 1) := by decide +kernel
theorem dX9_layDown_47 : decode cX9_layDown 47 = .ok (.iload_n 3, 1) := by decide +kernel
theorem dX9_layDown_48 : decode cX9_layDown 48 = .ok (.iconst (-1), 1) := by decide +kernel
theorem dX9_layDown_49 : decode cX9_layDown 49 = .ok (.if_icmp .ne 11, 3) := by decide +kernel
theorem dX9_layDown_52 : decode cX9_layDown 52 = .ok (.bipush 10, 2) := by decide +kernel
theorem dX9_layDown_54 : decode cX9_layDown 54 = .ok (.iload 4, 2) := by decide +kernel
theorem dX9_layDown_56 : decode cX9_layDown 56 = .ok (.iadd, 1) := by decide +kernel
theorem dX9_layDown_57 : decode cX9_layDown 57 = .ok (.goto 7, 3) := by decide +kernel
theorem dX9_layDown_60 : decode cX9_layDown 60 = .ok (.bipush 20, 2) := by decide +kernel
theorem dX9_layDown_62 : decode cX9_layDown 62 = .ok (.iload_n 3, 1) := by decide +kernel
theorem dX9_layDown_63 : decode cX9_layDown 63 = .ok (.iadd, 1) := by decide +kernel
theorem dX9_layDown_64 : decode cX9_layDown 64 = .ok (.iastore, 1) := by decide +kernel
theorem dX9_layDown_65 : decode cX9_layDown 65 = .ok (.iconst 1, 1) := by decide +kernel
theorem dX9_layDown_66 : decode cX9_layDown 66 = .ok (.ireturn, 1) := by decide +kernel
theorem dX9_toldAct_0 : decode cX9_toldAct 0 = .ok (.iload_n 2, 1) := by decide +kernel
theorem dX9_toldAct_1 : decode cX9_toldAct 1 = .ok (.tableswitch 54 0 2 #[27, 34, 41], 27) := by decide +kernel
theorem dX9_toldAct_28 : decode cX9_toldAct 28 = .ok (.aload_n 0, 1) := by decide +kernel
theorem dX9_toldAct_29 : decode cX9_toldAct 29 = .ok (.iload_n 1, 1) := by decide +kernel
theorem dX9_toldAct_30 : decode cX9_toldAct 30 = .ok (.iload_n 3, 1) := by decide +kernel
theorem dX9_toldAct_31 : decode cX9_toldAct 31 = .ok (.invokevirtual 146, 3) := by decide +kernel
theorem dX9_toldAct_34 : decode cX9_toldAct 34 = .ok (.ireturn, 1) := by decide +kernel
theorem dX9_toldAct_35 : decode cX9_toldAct 35 = .ok (.aload_n 0, 1) := by decide +kernel
theorem dX9_toldAct_36 : decode cX9_toldAct 36 = .ok (.iload_n 1, 1) := by decide +kernel
theorem dX9_toldAct_37 : decode cX9_toldAct 37 = .ok (.iload_n 3, 1) := by decide +kernel
theorem dX9_toldAct_38 : decode cX9_toldAct 38 = .ok (.invokevirtual 149, 3) := by decide +kernel
theorem dX9_toldAct_41 : decode cX9_toldAct 41 = .ok (.ireturn, 1) := by decide +kernel
theorem dX9_toldAct_42 : decode cX9_toldAct 42 = .ok (.aload_n 0, 1) := by decide +kernel
theorem dX9_toldAct_43 : decode cX9_toldAct 43 = .ok (.iload_n 1, 1) := by decide +kernel
theorem dX9_toldAct_44 : decode cX9_toldAct 44 = .ok (.aload_n 0, 1) := by decide +kernel
theorem dX9_toldAct_45 : decode cX9_toldAct 45 = .ok (.iload_n 1, 1) := by decide +kernel
theorem dX9_toldAct_46 : decode cX9_toldAct 46 = .ok (.iload_n 3, 1) := by decide +kernel
theorem dX9_toldAct_47 : decode cX9_toldAct 47 = .ok (.invokevirtual 152, 3) := by decide +kernel
theorem dX9_toldAct_50 : decode cX9_toldAct 50 = .ok (.iload_n 3, 1) := by decide +kernel
theorem dX9_toldAct_51 : decode cX9_toldAct 51 = .ok (.invokevirtual 155, 3) := by decide +kernel
theorem dX9_toldAct_54 : decode cX9_toldAct 54 = .ok (.ireturn, 1) := by decide +kernel
theorem dX9_toldAct_55 : decode cX9_toldAct 55 = .ok (.iconst (-1), 1) := by decide +kernel
theorem dX9_toldAct_56 : decode cX9_toldAct 56 = .ok (.ireturn, 1) := by decide +kernel
theorem dX9_shuttingKey_0 : decode cX9_shuttingKey 0 = .ok (.iconst 0, 1) := by decide +kernel
theorem dX9_shuttingKey_1 : decode cX9_shuttingKey 1 = .ok (.istore_n 3, 1) := by decide +kernel
theorem dX9_shuttingKey_2 : decode cX9_shuttingKey 2 = .ok (.iload_n 3, 1) := by decide +kernel
theorem dX9_shuttingKey_3 : decode cX9_shuttingKey 3 = .ok (.aload_n 0, 1) := by decide +kernel
theorem dX9_shuttingKey_4 : decode cX9_shuttingKey 4 = .ok (.getfield 9, 3) := by decide +kernel
theorem dX9_shuttingKey_7 : decode cX9_shuttingKey 7 = .ok (.iconst 2, 1) := by decide +kernel
theorem dX9_shuttingKey_8 : decode cX9_shuttingKey 8 = .ok (.iaload, 1) := by decide +kernel
theorem dX9_shuttingKey_9 : decode cX9_shuttingKey 9 = .ok (.if_icmp .ge 33, 3) := by decide +kernel
theorem dX9_shuttingKey_12 : decode cX9_shuttingKey 12 = .ok (.aload_n 0, 1) := by decide +kernel
theorem dX9_shuttingKey_13 : decode cX9_shuttingKey 13 = .ok (.iload_n 1, 1) := by decide +kernel
theorem dX9_shuttingKey_14 : decode cX9_shuttingKey 14 = .ok (.iload_n 3, 1) := by decide +kernel
theorem dX9_shuttingKey_15 : decode cX9_shuttingKey 15 = .ok (.invokevirtual 131, 3) := by decide +kernel
theorem dX9_shuttingKey_18 : decode cX9_shuttingKey 18 = .ok (.ifCond .eq 18, 3) := by decide +kernel
theorem dX9_shuttingKey_21 : decode cX9_shuttingKey 21 = .ok (.aload_n 0, 1) := by decide +kernel
theorem dX9_shuttingKey_22 : decode cX9_shuttingKey 22 = .ok (.getfield 63, 3) := by decide +kernel
theorem dX9_shuttingKey_25 : decode cX9_shuttingKey 25 = .ok (.iload_n 3, 1) := by decide +kernel
theorem dX9_shuttingKey_26 : decode cX9_shuttingKey 26 = .ok (.iload_n 2, 1) := by decide +kernel
theorem dX9_shuttingKey_27 : decode cX9_shuttingKey 27 = .ok (.invokevirtual 108, 3) := by decide +kernel
theorem dX9_shuttingKey_30 : decode cX9_shuttingKey 30 = .ok (.iconst (-1), 1) := by decide +kernel
theorem dX9_shuttingKey_31 : decode cX9_shuttingKey 31 = .ok (.if_icmp .ne 5, 3) := by decide +kernel
theorem dX9_shuttingKey_34 : decode cX9_shuttingKey 34 = .ok (.iload_n 3, 1) := by decide +kernel
theorem dX9_shuttingKey_35 : decode cX9_shuttingKey 35 = .ok (.ireturn, 1) := by decide +kernel
theorem dX9_shuttingKey_36 : decode cX9_shuttingKey 36 = .ok (.iinc 3 1, 3) := by decide +kernel
theorem dX9_shuttingKey_39 : decode cX9_shuttingKey 39 = .ok (.goto (-37), 3) := by decide +kernel
theorem dX9_shuttingKey_42 : decode cX9_shuttingKey 42 = .ok (.iconst (-1), 1) := by decide +kernel
theorem dX9_shuttingKey_43 : decode cX9_shuttingKey 43 = .ok (.ireturn, 1) := by decide +kernel
theorem dX9_holdersOf_0 : decode cX9_holdersOf 0 = .ok (.aload_n 0, 1) := by decide +kernel
theorem dX9_holdersOf_1 : decode cX9_holdersOf 1 = .ok (.getfield 67, 3) := by decide +kernel
theorem dX9_holdersOf_4 : decode cX9_holdersOf 4 = .ok (.iload_n 1, 1) := by decide +kernel
theorem dX9_holdersOf_5 : decode cX9_holdersOf 5 = .ok (.ishr, 1) := by decide +kernel
theorem dX9_holdersOf_6 : decode cX9_holdersOf 6 = .ok (.iconst 1, 1) := by decide +kernel
theorem dX9_holdersOf_7 : decode cX9_holdersOf 7 = .ok (.iand, 1) := by decide +kernel
theorem dX9_holdersOf_8 : decode cX9_holdersOf 8 = .ok (.ifCond .eq 5, 3) := by decide +kernel
theorem dX9_holdersOf_11 : decode cX9_holdersOf 11 = .ok (.iconst (-1), 1) := by decide +kernel
theorem dX9_holdersOf_12 : decode cX9_holdersOf 12 = .ok (.ireturn, 1) := by decide +kernel
theorem dX9_holdersOf_13 : decode cX9_holdersOf 13 = .ok (.iconst 0, 1) := by decide +kernel
theorem dX9_holdersOf_14 : decode cX9_holdersOf 14 = .ok (.istore_n 2, 1) := by decide +kernel
theorem dX9_holdersOf_15 : decode cX9_holdersOf 15 = .ok (.iconst 0, 1) := by decide +kernel
theorem dX9_holdersOf_16 : decode cX9_holdersOf 16 = .ok (.istore_n 3, 1) := by decide +kernel
theorem dX9_holdersOf_17 : decode cX9_holdersOf 17 = .ok (.iload_n 3, 1) := by decide +kernel
theorem dX9_holdersOf_18 : decode cX9_holdersOf 18 = .ok (.aload_n 0, 1) := by decide +kernel
theorem dX9_holdersOf_19 : decode cX9_holdersOf 19 = .ok (.getfield 9, 3) := by decide +kernel
theorem dX9_holdersOf_22 : decode cX9_holdersOf 22 = .ok (.iconst 2, 1) := by decide +kernel
theorem dX9_holdersOf_23 : decode cX9_holdersOf 23 = .ok (.iaload, 1) := by decide +kernel
theorem dX9_holdersOf_24 : decode cX9_holdersOf 24 = .ok (.if_icmp .ge 55, 3) := by decide +kernel
theorem dX9_holdersOf_27 : decode cX9_holdersOf 27 = .ok (.aload_n 0, 1) := by decide +kernel
theorem dX9_holdersOf_28 : decode cX9_holdersOf 28 = .ok (.getfield 63, 3) := by decide +kernel
theorem dX9_holdersOf_31 : decode cX9_holdersOf 31 = .ok (.iload_n 3, 1) := by decide +kernel
theorem dX9_holdersOf_32 : decode cX9_holdersOf 32 = .ok (.iload_n 1, 1) := by decide +kernel
theorem dX9_holdersOf_33 : decode cX9_holdersOf 33 = .ok (.invokevirtual 108, 3) := by decide +kernel
theorem dX9_holdersOf_36 : decode cX9_holdersOf 36 = .ok (.iconst (-1), 1) := by decide +kernel
theorem dX9_holdersOf_37 : decode cX9_holdersOf 37 = .ok (.if_icmp .eq 36, 3) := by decide +kernel
theorem dX9_holdersOf_40 : decode cX9_holdersOf 40 = .ok (.aload_n 0, 1) := by decide +kernel
theorem dX9_holdersOf_41 : decode cX9_holdersOf 41 = .ok (.iconst 3, 1) := by decide +kernel
theorem dX9_holdersOf_42 : decode cX9_holdersOf 42 = .ok (.aload_n 0, 1) := by decide +kernel
theorem dX9_holdersOf_43 : decode cX9_holdersOf 43 = .ok (.getfield 63, 3) := by decide +kernel
theorem dX9_holdersOf_46 : decode cX9_holdersOf 46 = .ok (.getfield 84, 3) := by decide +kernel
theorem dX9_holdersOf_49 : decode cX9_holdersOf 49 = .ok (.iload_n 3, 1) := by decide +kernel
theorem dX9_holdersOf_50 : decode cX9_holdersOf 50 = .ok (.iaload, 1) := by decide +kernel
theorem dX9_holdersOf_51 : decode cX9_holdersOf 51 = .ok (.invokevirtual 90, 3) := by decide +kernel
theorem dX9_holdersOf_54 : decode cX9_holdersOf 54 = .ok (.ifCond .ne 5, 3) := by decide +kernel
theorem dX9_holdersOf_57 : decode cX9_holdersOf 57 = .ok (.iconst (-1), 1) := by decide +kernel
theorem dX9_holdersOf_58 : decode cX9_holdersOf 58 = .ok (.ireturn, 1) := by decide +kernel
theorem dX9_holdersOf_59 : decode cX9_holdersOf 59 = .ok (.iload_n 2, 1) := by decide +kernel
theorem dX9_holdersOf_60 : decode cX9_holdersOf 60 = .ok (.iconst 1, 1) := by decide +kernel
theorem dX9_holdersOf_61 : decode cX9_holdersOf 61 = .ok (.aload_n 0, 1) := by decide +kernel
theorem dX9_holdersOf_62 : decode cX9_holdersOf 62 = .ok (.getfield 63, 3) := by decide +kernel
theorem dX9_holdersOf_65 : decode cX9_holdersOf 65 = .ok (.getfield 84, 3) := by decide +kernel
theorem dX9_holdersOf_68 : decode cX9_holdersOf 68 = .ok (.iload_n 3, 1) := by decide +kernel
theorem dX9_holdersOf_69 : decode cX9_holdersOf 69 = .ok (.iaload, 1) := by decide +kernel
theorem dX9_holdersOf_70 : decode cX9_holdersOf 70 = .ok (.ishl, 1) := by decide +kernel
theorem dX9_holdersOf_71 : decode cX9_holdersOf 71 = .ok (.ior, 1) := by decide +kernel
theorem dX9_holdersOf_72 : decode cX9_holdersOf 72 = .ok (.istore_n 2, 1) := by decide +kernel
theorem dX9_holdersOf_73 : decode cX9_holdersOf 73 = .ok (.iinc 3 1, 3) := by decide +kernel
theorem dX9_holdersOf_76 : decode cX9_holdersOf 76 = .ok (.goto (-59), 3) := by decide +kernel
theorem dX9_holdersOf_79 : decode cX9_holdersOf 79 = .ok (.iload_n 2, 1) := by decide +kernel
theorem dX9_holdersOf_80 : decode cX9_holdersOf 80 = .ok (.ireturn, 1) := by decide +kernel
theorem dX9_workOf_0 : decode cX9_workOf 0 = .ok (.iconst 0, 1) := by decide +kernel
theorem dX9_workOf_1 : decode cX9_workOf 1 = .ok (.istore_n 2, 1) := by decide +kernel
theorem dX9_workOf_2 : decode cX9_workOf 2 = .ok (.iconst 0, 1) := by decide +kernel
theorem dX9_workOf_3 : decode cX9_workOf 3 = .ok (.istore_n 3, 1) := by decide +kernel
theorem dX9_workOf_4 : decode cX9_workOf 4 = .ok (.iload_n 3, 1) := by decide +kernel
theorem dX9_workOf_5 : decode cX9_workOf 5 = .ok (.aload_n 0, 1) := by decide +kernel
theorem dX9_workOf_6 : decode cX9_workOf 6 = .ok (.getfield 9, 3) := by decide +kernel
theorem dX9_workOf_9 : decode cX9_workOf 9 = .ok (.iconst 2, 1) := by decide +kernel
theorem dX9_workOf_10 : decode cX9_workOf 10 = .ok (.iaload, 1) := by decide +kernel
theorem dX9_workOf_11 : decode cX9_workOf 11 = .ok (.if_icmp .ge 41, 3) := by decide +kernel
theorem dX9_workOf_14 : decode cX9_workOf 14 = .ok (.aload_n 0, 1) := by decide +kernel
theorem dX9_workOf_15 : decode cX9_workOf 15 = .ok (.getfield 63, 3) := by decide +kernel
theorem dX9_workOf_18 : decode cX9_workOf 18 = .ok (.iload_n 3, 1) := by decide +kernel
theorem dX9_workOf_19 : decode cX9_workOf 19 = .ok (.iload_n 1, 1) := by decide +kernel
theorem dX9_workOf_20 : decode cX9_workOf 20 = .ok (.invokevirtual 108, 3) := by decide +kernel
theorem dX9_workOf_23 : decode cX9_workOf 23 = .ok (.istore 4, 2) := by decide +kernel
theorem dX9_workOf_25 : decode cX9_workOf 25 = .ok (.iload 4, 2) := by decide +kernel
theorem dX9_workOf_27 : decode cX9_workOf 27 = .ok (.iconst (-1), 1) := by decide +kernel
theorem dX9_workOf_28 : decode cX9_workOf 28 = .ok (.if_icmp .eq 18, 3) := by decide +kernel
theorem dX9_workOf_31 : decode cX9_workOf 31 = .ok (.iload_n 2, 1) := by decide +kernel
theorem dX9_workOf_32 : decode cX9_workOf 32 = .ok (.aload_n 0, 1) := by decide +kernel
theorem dX9_workOf_33 : decode cX9_workOf 33 = .ok (.getfield 63, 3) := by decide +kernel
theorem dX9_workOf_36 : decode cX9_workOf 36 = .ok (.getfield 71, 3) := by decide +kernel
theorem dX9_workOf_39 : decode cX9_workOf 39 = .ok (.iload_n 3, 1) := by decide +kernel
theorem dX9_workOf_40 : decode cX9_workOf 40 = .ok (.iaload, 1) := by decide +kernel
theorem dX9_workOf_41 : decode cX9_workOf 41 = .ok (.iload 4, 2) := by decide +kernel
theorem dX9_workOf_43 : decode cX9_workOf 43 = .ok (.isub, 1) := by decide +kernel
theorem dX9_workOf_44 : decode cX9_workOf 44 = .ok (.iadd, 1) := by decide +kernel
theorem dX9_workOf_45 : decode cX9_workOf 45 = .ok (.istore_n 2, 1) := by decide +kernel
theorem dX9_workOf_46 : decode cX9_workOf 46 = .ok (.iinc 3 1, 3) := by decide +kernel
theorem dX9_workOf_49 : decode cX9_workOf 49 = .ok (.goto (-45), 3) := by decide +kernel
theorem dX9_workOf_52 : decode cX9_workOf 52 = .ok (.iload_n 2, 1) := by decide +kernel
theorem dX9_workOf_53 : decode cX9_workOf 53 = .ok (.ireturn, 1) := by decide +kernel
theorem dX10_measureWays_0 : decode cX10_measureWays 0 = .ok (.iconst 0, 1) := by decide +kernel
theorem dX10_measureWays_1 : decode cX10_measureWays 1 = .ok (.istore_n 3, 1) := by decide +kernel
theorem dX10_measureWays_2 : decode cX10_measureWays 2 = .ok (.iload_n 3, 1) := by decide +kernel
theorem dX10_measureWays_3 : decode cX10_measureWays 3 = .ok (.bipush 64, 2) := by decide +kernel
theorem dX10_measureWays_5 : decode cX10_measureWays 5 = .ok (.if_icmp .ge 32, 3) := by decide +kernel
theorem dX10_measureWays_8 : decode cX10_measureWays 8 = .ok (.aload_n 0, 1) := by decide +kernel
theorem dX10_measureWays_9 : decode cX10_measureWays 9 = .ok (.getfield 9, 3) := by decide +kernel
theorem dX10_measureWays_12 : decode cX10_measureWays 12 = .ok (.iload_n 3, 1) := by decide +kernel
theorem dX10_measureWays_13 : decode cX10_measureWays 13 = .ok (.iload_n 3, 1) := by decide +kernel
theorem dX10_measureWays_14 : decode cX10_measureWays 14 = .ok (.bipush 8, 2) := by decide +kernel
theorem dX10_measureWays_16 : decode cX10_measureWays 16 = .ok (.idiv, 1) := by decide +kernel
theorem dX10_measureWays_17 : decode cX10_measureWays 17 = .ok (.iload_n 3, 1) := by decide +kernel
theorem dX10_measureWays_18 : decode cX10_measureWays 18 = .ok (.bipush 8, 2) := by decide +kernel
theorem dX10_measureWays_20 : decode cX10_measureWays 20 = .ok (.irem, 1) := by decide +kernel
theorem dX10_measureWays_21 : decode cX10_measureWays 21 = .ok (.if_icmp .ne 7, 3) := by decide +kernel
theorem dX10_measureWays_24 : decode cX10_measureWays 24 = .ok (.iconst 0, 1) := by decide +kernel
theorem dX10_measureWays_25 : decode cX10_measureWays 25 = .ok (.goto 5, 3) := by decide +kernel
theorem dX10_measureWays_28 : decode cX10_measureWays 28 = .ok (.ldc 35, 2) := by decide +kernel
theorem dX10_measureWays_30 : decode cX10_measureWays 30 = .ok (.iastore, 1) := by decide +kernel
theorem dX10_measureWays_31 : decode cX10_measureWays 31 = .ok (.iinc 3 1, 3) := by decide +kernel
theorem dX10_measureWays_34 : decode cX10_measureWays 34 = .ok (.goto (-32), 3) := by decide +kernel
theorem dX10_measureWays_37 : decode cX10_measureWays 37 = .ok (.aload_n 1, 1) := by decide +kernel
theorem dX10_measureWays_38 : decode cX10_measureWays 38 = .ok (.invokevirtual 36, 3) := by decide +kernel
theorem dX10_measureWays_41 : decode cX10_measureWays 41 = .ok (.istore_n 3, 1) := by decide +kernel
theorem dX10_measureWays_42 : decode cX10_measureWays 42 = .ok (.iconst 0, 1) := by decide +kernel
theorem dX10_measureWays_43 : decode cX10_measureWays 43 = .ok (.istore 4, 2) := by decide +kernel
theorem dX10_measureWays_45 : decode cX10_measureWays 45 = .ok (.iload 4, 2) := by decide +kernel
theorem dX10_measureWays_47 : decode cX10_measureWays 47 = .ok (.aload_n 1, 1) := by decide +kernel
theorem dX10_measureWays_48 : decode cX10_measureWays 48 = .ok (.getfield 18, 3) := by decide +kernel
theorem dX10_measureWays_51 : decode cX10_measureWays 51 = .ok (.iconst 1, 1) := by decide +kernel
theorem dX10_measureWays_52 : decode cX10_measureWays 52 = .ok (.iaload, 1) := by decide +kernel
theorem dX10_measureWays_53 : decode cX10_measureWays 53 = .ok (.if_icmp .ge 77, 3) := by decide +kernel
theorem dX10_measureWays_56 : decode cX10_measureWays 56 = .ok (.aload_n 1, 1) := by decide +kernel
theorem dX10_measureWays_57 : decode cX10_measureWays 57 = .ok (.iload 4, 2) := by decide +kernel
theorem dX10_measureWays_59 : decode cX10_measureWays 59 = .ok (.invokevirtual 40, 3) := by decide +kernel
theorem dX10_measureWays_62 : decode cX10_measureWays 62 = .ok (.ifCond .ne 62, 3) := by decide +kernel
theorem dX10_measureWays_65 : decode cX10_measureWays 65 = .ok (.iload_n 3, 1) := by decide +kernel
theorem dX10_measureWays_66 : decode cX10_measureWays 66 = .ok (.iload 4, 2) := by decide +kernel
theorem dX10_measureWays_68 : decode cX10_measureWays 68 = .ok (.ishr, 1) := by decide +kernel
theorem dX10_measureWays_69 : decode cX10_measureWays 69 = .ok (.iconst 1, 1) := by decide +kernel
theorem dX10_measureWays_70 : decode cX10_measureWays 70 = .ok (.iand, 1) := by decide +kernel
theorem dX10_measureWays_71 : decode cX10_measureWays 71 = .ok (.ifCond .ne 53, 3) := by decide +kernel
theorem dX10_measureWays_74 : decode cX10_measureWays 74 = .ok (.aload_n 0, 1) := by decide +kernel
theorem dX10_measureWays_75 : decode cX10_measureWays 75 = .ok (.aload_n 1, 1) := by decide +kernel
theorem dX10_measureWays_76 : decode cX10_measureWays 76 = .ok (.getfield 44, 3) := by decide +kernel
theorem dX10_measureWays_79 : decode cX10_measureWays 79 = .ok (.iload 4, 2) := by decide +kernel
theorem dX10_measureWays_81 : decode cX10_measureWays 81 = .ok (.iaload, 1) := by decide +kernel
theorem dX10_measureWays_82 : decode cX10_measureWays 82 = .ok (.aload_n 1, 1) := by decide +kernel
theorem dX10_measureWays_83 : decode cX10_measureWays 83 = .ok (.getfield 47, 3) := by decide +kernel
theorem dX10_measureWays_86 : decode cX10_measureWays 86 = .ok (.iload 4, 2) := by decide +kernel
theorem dX10_measureWays_88 : decode cX10_measureWays 88 = .ok (.iaload, 1) := by decide +kernel
theorem dX10_measureWays_89 : decode cX10_measureWays 89 = .ok (.aload_n 1, 1) := by decide +kernel
theorem dX10_measureWays_90 : decode cX10_measureWays 90 = .ok (.getfield 50, 3) := by decide +kernel
theorem dX10_measureWays_93 : decode cX10_measureWays 93 = .ok (.iload 4, 2) := by decide +kernel
theorem dX10_measureWays_95 : decode cX10_measureWays 95 = .ok (.iaload, 1) := by decide +kernel
theorem dX10_measureWays_96 : decode cX10_measureWays 96 = .ok (.invokevirtual 53, 3) := by decide +kernel
theorem dX10_measureWays_99 : decode cX10_measureWays 99 = .ok (.aload_n 0, 1) := by decide +kernel
theorem dX10_measureWays_100 : decode cX10_measureWays 100 = .ok (.aload_n 1, 1) := by decide +kernel
theorem dX10_measureWays_101 : decode cX10_measureWays 101 = .ok (.getfield 47, 3) := by decide +kernel
theorem dX10_measureWays_104 : decode cX10_measureWays 104 = .ok (.iload 4, 2) := by decide +kernel
theorem dX10_measureWays_106 : decode cX10_measureWays 106 = .ok (.iaload, 1) := by decide +kernel
theorem dX10_measureWays_107 : decode cX10_measureWays 107 = .ok (.aload_n 1, 1) := by decide +kernel
theorem dX10_measureWays_108 : decode cX10_measureWays 108 = .ok (.getfield 44, 3) := by decide +kernel
theorem dX10_measureWays_111 : decode cX10_measureWays 111 = .ok (.iload 4, 2) := by decide +kernel
theorem dX10_measureWays_113 : decode cX10_measureWays 113 = .ok (.iaload, 1) := by decide +kernel
theorem dX10_measureWays_114 : decode cX10_measureWays 114 = .ok (.aload_n 1, 1) := by decide +kernel
theorem dX10_measureWays_115 : decode cX10_measureWays 115 = .ok (.getfield 50, 3) := by decide +kernel
theorem dX10_measureWays_118 : decode cX10_measureWays 118 = .ok (.iload 4, 2) := by decide +kernel
theorem dX10_measureWays_120 : decode cX10_measureWays 120 = .ok (.iaload, 1) := by decide +kernel
theorem dX10_measureWays_121 : decode cX10_measureWays 121 = .ok (.invokevirtual 53, 3) := by decide +kernel
theorem dX10_measureWays_124 : decode cX10_measureWays 124 = .ok (.iinc 4 1, 3) := by decide +kernel
theorem dX10_measureWays_127 : decode cX10_measureWays 127 = .ok (.goto (-82), 3) := by decide +kernel
theorem dX10_measureWays_130 : decode cX10_measureWays 130 = .ok (.iconst 0, 1) := by decide +kernel
theorem dX10_measureWays_131 : decode cX10_measureWays 131 = .ok (.istore 4, 2) := by decide +kernel
theorem dX10_measureWays_133 : decode cX10_measureWays 133 = .ok (.iload 4, 2) := by decide +kernel
theorem dX10_measureWays_135 : decode cX10_measureWays 135 = .ok (.iload_n 2, 1) := by decide +kernel
theorem dX10_measureWays_136 : decode cX10_measureWays 136 = .ok (.if_icmp .ge 64, 3) := by decide +kernel
theorem dX10_measureWays_139 : decode cX10_measureWays 139 = .ok (.iconst 0, 1) := by decide +kernel
theorem dX10_measureWays_140 : decode cX10_measureWays 140 = .ok (.istore 5, 2) := by decide +kernel
theorem dX10_measureWays_142 : decode cX10_measureWays 142 = .ok (.iload 5, 2) := by decide +kernel
theorem dX10_measureWays_144 : decode cX10_measureWays 144 = .ok (.iload_n 2, 1) := by decide +kernel
theorem dX10_measureWays_145 : decode cX10_measureWays 145 = .ok (.if_icmp .ge 49, 3) := by decide +kernel
theorem dX10_measureWays_148 : decode cX10_measureWays 148 = .ok (.iconst 0, 1) := by decide +kernel
theorem dX10_measureWays_149 : decode cX10_measureWays 149 = .ok (.istore 6, 2) := by decide +kernel
theorem dX10_measureWays_151 : decode cX10_measureWays 151 = .ok (.iload 6, 2) := by decide +kernel
theorem dX10_measureWays_153 : decode cX10_measureWays 153 = .ok (.iload_n 2, 1) := by decide +kernel
theorem dX10_measureWays_154 : decode cX10_measureWays 154 = .ok (.if_icmp .ge 34, 3) := by decide +kernel
theorem dX10_measureWays_157 : decode cX10_measureWays 157 = .ok (.aload_n 0, 1) := by decide +kernel
theorem dX10_measureWays_158 : decode cX10_measureWays 158 = .ok (.iload 5, 2) := by decide +kernel
theorem dX10_measureWays_160 : decode cX10_measureWays 160 = .ok (.iload 6, 2) := by decide +kernel
theorem dX10_measureWays_162 : decode cX10_measureWays 162 = .ok (.aload_n 0, 1) := by decide +kernel
theorem dX10_measureWays_163 : decode cX10_measureWays 163 = .ok (.iload 5, 2) := by decide +kernel
theorem dX10_measureWays_165 : decode cX10_measureWays 165 = .ok (.iload 4, 2) := by decide +kernel
theorem dX10_measureWays_167 : decode cX10_measureWays 167 = .ok (.invokevirtual 57, 3) := by decide +kernel
theorem dX10_measureWays_170 : decode cX10_measureWays 170 = .ok (.aload_n 0, 1) := by decide +kernel
theorem dX10_measureWays_171 : decode cX10_measureWays 171 = .ok (.iload 4, 2) := by decide +kernel
theorem dX10_measureWays_173 : decode cX10_measureWays 173 = .ok (.iload 6, 2) := by decide +kernel
theorem dX10_measureWays_175 : decode cX10_measureWays 175 = .ok (.invokevirtual 57, 3) := by decide +kernel
theorem dX10_measureWays_178 : decode cX10_measureWays 178 = .ok (.iadd, 1) := by decide +kernel
theorem dX10_measureWays_179 : decode cX10_measureWays 179 = .ok (.invokevirtual 53, 3) := by decide +kernel
theorem dX10_measureWays_182 : decode cX10_measureWays 182 = .ok (.iinc 6 1, 3) := by decide +kernel
theorem dX10_measureWays_185 : decode cX10_measureWays 185 = .ok (.goto (-34), 3) := by decide +kernel
theorem dX10_measureWays_188 : decode cX10_measureWays 188 = .ok (.iinc 5 1, 3) := by decide +kernel
theorem dX10_measureWays_191 : decode cX10_measureWays 191 = .ok (.goto (-49), 3) := by decide +kernel
theorem dX10_measureWays_194 : decode cX10_measureWays 194 = .ok (.iinc 4 1, 3) := by decide +kernel
theorem dX10_measureWays_197 : decode cX10_measureWays 197 = .ok (.goto (-64), 3) := by decide +kernel
theorem dX10_measureWays_200 : decode cX10_measureWays 200 = .ok (.return_, 1) := by decide +kernel
theorem dX10_wayOf_0 : decode cX10_wayOf 0 = .ok (.iload_n 1, 1) := by decide +kernel
theorem dX10_wayOf_1 : decode cX10_wayOf 1 = .ok (.ifCond .lt 19, 3) := by decide +kernel
theorem dX10_wayOf_4 : decode cX10_wayOf 4 = .ok (.iload_n 1, 1) := by decide +kernel
theorem dX10_wayOf_5 : decode cX10_wayOf 5 = .ok (.bipush 8, 2) := by decide +kernel
theorem dX10_wayOf_7 : decode cX10_wayOf 7 = .ok (.if_icmp .ge 13, 3) := by decide +kernel
theorem dX10_wayOf_10 : decode cX10_wayOf 10 = .ok (.iload_n 2, 1) := by decide +kernel
theorem dX10_wayOf_11 : decode cX10_wayOf 11 = .ok (.ifCond .lt 9, 3) := by decide +kernel
theorem dX10_wayOf_14 : decode cX10_wayOf 14 = .ok (.iload_n 2, 1) := by decide +kernel
theorem dX10_wayOf_15 : decode cX10_wayOf 15 = .ok (.bipush 8, 2) := by decide +kernel
theorem dX10_wayOf_17 : decode cX10_wayOf 17 = .ok (.if_icmp .lt 6, 3) := by decide +kernel
theorem dX10_wayOf_20 : decode cX10_wayOf 20 = .ok (.ldc 35, 2) := by decide +kernel
theorem dX10_wayOf_22 : decode cX10_wayOf 22 = .ok (.ireturn, 1) := by decide +kernel
theorem dX10_wayOf_23 : decode cX10_wayOf 23 = .ok (.aload_n 0, 1) := by decide +kernel
theorem dX10_wayOf_24 : decode cX10_wayOf 24 = .ok (.getfield 9, 3) := by decide +kernel
theorem dX10_wayOf_27 : decode cX10_wayOf 27 = .ok (.iload_n 1, 1) := by decide +kernel
theorem dX10_wayOf_28 : decode cX10_wayOf 28 = .ok (.bipush 8, 2) := by decide +kernel
theorem dX10_wayOf_30 : decode cX10_wayOf 30 = .ok (.imul, 1) := by decide +kernel
theorem dX10_wayOf_31 : decode cX10_wayOf 31 = .ok (.iload_n 2, 1) := by decide +kernel
theorem dX10_wayOf_32 : decode cX10_wayOf 32 = .ok (.iadd, 1) := by decide +kernel
theorem dX10_wayOf_33 : decode cX10_wayOf 33 = .ok (.iaload, 1) := by decide +kernel
theorem dX10_wayOf_34 : decode cX10_wayOf 34 = .ok (.ireturn, 1) := by decide +kernel
theorem dX10_shorten_0 : decode cX10_shorten 0 = .ok (.iload_n 1, 1) := by decide +kernel
theorem dX10_shorten_1 : decode cX10_shorten 1 = .ok (.ifCond .lt 45, 3) := by decide +kernel
theorem dX10_shorten_4 : decode cX10_shorten 4 = .ok (.iload_n 1, 1) := by decide +kernel
theorem dX10_shorten_5 : decode cX10_shorten 5 = .ok (.bipush 8, 2) := by decide +kernel
theorem dX10_shorten_7 : decode cX10_shorten 7 = .ok (.if_icmp .ge 39, 3) := by decide +kernel
theorem dX10_shorten_10 : decode cX10_shorten 10 = .ok (.iload_n 2, 1) := by decide +kernel
theorem dX10_shorten_11 : decode cX10_shorten 11 = .ok (.ifCond .lt 35, 3) := by decide +kernel
theorem dX10_shorten_14 : decode cX10_shorten 14 = .ok (.iload_n 2, 1) := by decide +kernel
theorem dX10_shorten_15 : decode cX10_shorten 15 = .ok (.bipush 8, 2) := by decide +kernel
theorem dX10_shorten_17 : decode cX10_shorten 17 = .ok (.if_icmp .ge 29, 3) := by decide +kernel
theorem dX10_shorten_20 : decode cX10_shorten 20 = .ok (.aload_n 0, 1) := by decide +kernel
theorem dX10_shorten_21 : decode cX10_shorten 21 = .ok (.getfield 9, 3) := by decide +kernel
theorem dX10_shorten_24 : decode cX10_shorten 24 = .ok (.iload_n 1, 1) := by decide +kernel
theorem dX10_shorten_25 : decode cX10_shorten 25 = .ok (.bipush 8, 2) := by decide +kernel
theorem dX10_shorten_27 : decode cX10_shorten 27 = .ok (.imul, 1) := by decide +kernel
theorem dX10_shorten_28 : decode cX10_shorten 28 = .ok (.iload_n 2, 1) := by decide +kernel
theorem dX10_shorten_29 : decode cX10_shorten 29 = .ok (.iadd, 1) := by decide +kernel
theorem dX10_shorten_30 : decode cX10_shorten 30 = .ok (.aload_n 0, 1) := by decide +kernel
theorem dX10_shorten_31 : decode cX10_shorten 31 = .ok (.getfield 9, 3) := by decide +kernel
theorem dX10_shorten_34 : decode cX10_shorten 34 = .ok (.iload_n 1, 1) := by decide +kernel
theorem dX10_shorten_35 : decode cX10_shorten 35 = .ok (.bipush 8, 2) := by decide +kernel
theorem dX10_shorten_37 : decode cX10_shorten 37 = .ok (.imul, 1) := by decide +kernel
theorem dX10_shorten_38 : decode cX10_shorten 38 = .ok (.iload_n 2, 1) := by decide +kernel
theorem dX10_shorten_39 : decode cX10_shorten 39 = .ok (.iadd, 1) := by decide +kernel
theorem dX10_shorten_40 : decode cX10_shorten 40 = .ok (.iaload, 1) := by decide +kernel
theorem dX10_shorten_41 : decode cX10_shorten 41 = .ok (.iload_n 3, 1) := by decide +kernel
theorem dX10_shorten_42 : decode cX10_shorten 42 = .ok (.invokestatic 60, 3) := by decide +kernel
theorem dX10_shorten_45 : decode cX10_shorten 45 = .ok (.iastore, 1) := by decide +kernel
theorem dX10_shorten_46 : decode cX10_shorten 46 = .ok (.return_, 1) := by decide +kernel
theorem dX10_walk_0 : decode cX10_walk 0 = .ok (.iconst 0, 1) := by decide +kernel
theorem dX10_walk_1 : decode cX10_walk 1 = .ok (.istore_n 3, 1) := by decide +kernel
theorem dX10_walk_2 : decode cX10_walk 2 = .ok (.iload_n 3, 1) := by decide +kernel
theorem dX10_walk_3 : decode cX10_walk 3 = .ok (.sipush 2048, 3) := by decide +kernel
theorem dX10_walk_6 : decode cX10_walk 6 = .ok (.if_icmp .ge 27, 3) := by decide +kernel
theorem dX10_walk_9 : decode cX10_walk 9 = .ok (.iload_n 3, 1) := by decide +kernel
theorem dX10_walk_10 : decode cX10_walk 10 = .ok (.iload_n 1, 1) := by decide +kernel
theorem dX10_walk_11 : decode cX10_walk 11 = .ok (.iconst 1, 1) := by decide +kernel
theorem dX10_walk_12 : decode cX10_walk 12 = .ok (.iadd, 1) := by decide +kernel
theorem dX10_walk_13 : decode cX10_walk 13 = .ok (.bipush 8, 2) := by decide +kernel
theorem dX10_walk_15 : decode cX10_walk 15 = .ok (.imul, 1) := by decide +kernel
theorem dX10_walk_16 : decode cX10_walk 16 = .ok (.if_icmp .ge 17, 3) := by decide +kernel
theorem dX10_walk_19 : decode cX10_walk 19 = .ok (.aload_n 0, 1) := by decide +kernel
theorem dX10_walk_20 : decode cX10_walk 20 = .ok (.getfield 15, 3) := by decide +kernel
theorem dX10_walk_23 : decode cX10_walk 23 = .ok (.iload_n 3, 1) := by decide +kernel
theorem dX10_walk_24 : decode cX10_walk 24 = .ok (.ldc 35, 2) := by decide +kernel
theorem dX10_walk_26 : decode cX10_walk 26 = .ok (.iastore, 1) := by decide +kernel
theorem dX10_walk_27 : decode cX10_walk 27 = .ok (.iinc 3 1, 3) := by decide +kernel
theorem dX10_walk_30 : decode cX10_walk 30 = .ok (.goto (-28), 3) := by decide +kernel
theorem dX10_walk_33 : decode cX10_walk 33 = .ok (.iconst 1, 1) := by decide +kernel
theorem dX10_walk_34 : decode cX10_walk 34 = .ok (.iload_n 2, 1) := by decide +kernel
theorem dX10_walk_35 : decode cX10_walk 35 = .ok (.ishl, 1) := by decide +kernel
theorem dX10_walk_36 : decode cX10_walk 36 = .ok (.bipush 8, 2) := by decide +kernel
theorem dX10_walk_38 : decode cX10_walk 38 = .ok (.imul, 1) := by decide +kernel
theorem dX10_walk_39 : decode cX10_walk 39 = .ok (.iload_n 2, 1) := by decide +kernel
theorem dX10_walk_40 : decode cX10_walk 40 = .ok (.iadd, 1) := by decide +kernel
theorem dX10_walk_41 : decode cX10_walk 41 = .ok (.istore_n 3, 1) := by decide +kernel
theorem dX10_walk_42 : decode cX10_walk 42 = .ok (.iload_n 3, 1) := by decide +kernel
theorem dX10_walk_43 : decode cX10_walk 43 = .ok (.ifCond .lt 10, 3) := by decide +kernel
theorem dX10_walk_46 : decode cX10_walk 46 = .ok (.iload_n 3, 1) := by decide +kernel
theorem dX10_walk_47 : decode cX10_walk 47 = .ok (.sipush 2048, 3) := by decide +kernel
theorem dX10_walk_50 : decode cX10_walk 50 = .ok (.if_icmp .lt 6, 3) := by decide +kernel
theorem dX10_walk_53 : decode cX10_walk 53 = .ok (.ldc 35, 2) := by decide +kernel
theorem dX10_walk_55 : decode cX10_walk 55 = .ok (.ireturn, 1) := by decide +kernel
theorem dX10_walk_56 : decode cX10_walk 56 = .ok (.aload_n 0, 1) := by decide +kernel
theorem dX10_walk_57 : decode cX10_walk 57 = .ok (.getfield 15, 3) := by decide +kernel
theorem dX10_walk_60 : decode cX10_walk 60 = .ok (.iload_n 3, 1) := by decide +kernel
theorem dX10_walk_61 : decode cX10_walk 61 = .ok (.iconst 0, 1) := by decide +kernel
theorem dX10_walk_62 : decode cX10_walk 62 = .ok (.iastore, 1) := by decide +kernel
theorem dX10_walk_63 : decode cX10_walk 63 = .ok (.ldc 35, 2) := by decide +kernel
theorem dX10_walk_65 : decode cX10_walk 65 = .ok (.istore 4, 2) := by decide +kernel
theorem dX10_walk_67 : decode cX10_walk 67 = .ok (.iconst 0, 1) := by decide +kernel
theorem dX10_walk_68 : decode cX10_walk 68 = .ok (.istore 5, 2) := by decide +kernel
theorem dX10_walk_70 : decode cX10_walk 70 = .ok (.iload 5, 2) := by decide +kernel
theorem dX10_walk_72 : decode cX10_walk 72 = .ok (.sipush 256, 3) := by decide +kernel
theorem dX10_walk_75 : decode cX10_walk 75 = .ok (.if_icmp .ge 95, 3) := by decide +kernel
theorem dX10_walk_78 : decode cX10_walk 78 = .ok (.iload 5, 2) := by decide +kernel
theorem dX10_walk_80 : decode cX10_walk 80 = .ok (.iload_n 1, 1) := by decide +kernel
theorem dX10_walk_81 : decode cX10_walk 81 = .ok (.if_icmp .gt 89, 3) := by decide +kernel
theorem dX10_walk_84 : decode cX10_walk 84 = .ok (.iconst 0, 1) := by decide +kernel
theorem dX10_walk_85 : decode cX10_walk 85 = .ok (.istore 6, 2) := by decide +kernel
theorem dX10_walk_87 : decode cX10_walk 87 = .ok (.iload 6, 2) := by decide +kernel
theorem dX10_walk_89 : decode cX10_walk 89 = .ok (.bipush 8, 2) := by decide +kernel
theorem dX10_walk_91 : decode cX10_walk 91 = .ok (.if_icmp .ge 73, 3) := by decide +kernel
theorem dX10_walk_94 : decode cX10_walk 94 = .ok (.aload_n 0, 1) := by decide +kernel
theorem dX10_walk_95 : decode cX10_walk 95 = .ok (.getfield 15, 3) := by decide +kernel
theorem dX10_walk_98 : decode cX10_walk 98 = .ok (.iload 5, 2) := by decide +kernel
theorem dX10_walk_100 : decode cX10_walk 100 = .ok (.bipush 8, 2) := by decide +kernel
theorem dX10_walk_102 : decode cX10_walk 102 = .ok (.imul, 1) := by decide +kernel
theorem dX10_walk_103 : decode cX10_walk 103 = .ok (.iload 6, 2) := by decide +kernel
theorem dX10_walk_105 : decode cX10_walk 105 = .ok (.iadd, 1) := by decide +kernel
theorem dX10_walk_106 : decode cX10_walk 106 = .ok (.iaload, 1) := by decide +kernel
theorem dX10_walk_107 : decode cX10_walk 107 = .ok (.istore 7, 2) := by decide +kernel
theorem dX10_walk_109 : decode cX10_walk 109 = .ok (.iload 7, 2) := by decide +kernel
theorem dX10_walk_111 : decode cX10_walk 111 = .ok (.ldc 35, 2) := by decide +kernel
theorem dX10_walk_113 : decode cX10_walk 113 = .ok (.if_icmp .lt 6, 3) := by decide +kernel
theorem dX10_walk_116 : decode cX10_walk 116 = .ok (.goto 42, 3) := by decide +kernel
theorem dX10_walk_119 : decode cX10_walk 119 = .ok (.iload 5, 2) := by decide +kernel
theorem dX10_walk_121 : decode cX10_walk 121 = .ok (.iload_n 1, 1) := by decide +kernel
theorem dX10_walk_122 : decode cX10_walk 122 = .ok (.if_icmp .ne 20, 3) := by decide +kernel
theorem dX10_walk_125 : decode cX10_walk 125 = .ok (.iload 4, 2) := by decide +kernel
theorem dX10_walk_127 : decode cX10_walk 127 = .ok (.iload 7, 2) := by decide +kernel
theorem dX10_walk_129 : decode cX10_walk 129 = .ok (.aload_n 0, 1) := by decide +kernel
theorem dX10_walk_130 : decode cX10_walk 130 = .ok (.iload 6, 2) := by decide +kernel
theorem dX10_walk_132 : decode cX10_walk 132 = .ok (.iload_n 2, 1) := by decide +kernel
theorem dX10_walk_133 : decode cX10_walk 133 = .ok (.invokevirtual 57, 3) := by decide +kernel
theorem dX10_walk_136 : decode cX10_walk 136 = .ok (.iadd, 1) := by decide +kernel
theorem dX10_walk_137 : decode cX10_walk 137 = .ok (.invokestatic 60, 3) := by decide +kernel
theorem dX10_walk_140 : decode cX10_walk 140 = .ok (.istore 4, 2) := by decide +kernel
theorem dX10_walk_142 : decode cX10_walk 142 = .ok (.aload_n 0, 1) := by decide +kernel
theorem dX10_walk_143 : decode cX10_walk 143 = .ok (.iload_n 1, 1) := by decide +kernel
theorem dX10_walk_144 : decode cX10_walk 144 = .ok (.iload 5, 2) := by decide +kernel
theorem dX10_walk_146 : decode cX10_walk 146 = .ok (.iconst (-1), 1) := by decide +kernel
theorem dX10_walk_147 : decode cX10_walk 147 = .ok (.ixor, 1) := by decide +kernel
theorem dX10_walk_148 : decode cX10_walk 148 = .ok (.iand, 1) := by decide +kernel
theorem dX10_walk_149 : decode cX10_walk 149 = .ok (.iload 5, 2) := by decide +kernel
theorem dX10_walk_151 : decode cX10_walk 151 = .ok (.iload 6, 2) := by decide +kernel
theorem dX10_walk_153 : decode cX10_walk 153 = .ok (.iload 7, 2) := by decide +kernel
theorem dX10_walk_155 : decode cX10_walk 155 = .ok (.invokevirtual 65, 3) := by decide +kernel
theorem dX10_walk_158 : decode cX10_walk 158 = .ok (.iinc 6 1, 3) := by decide +kernel
theorem dX10_walk_161 : decode cX10_walk 161 = .ok (.goto (-74), 3) := by decide +kernel
theorem dX10_walk_164 : decode cX10_walk 164 = .ok (.iinc 5 1, 3) := by decide +kernel
theorem dX10_walk_167 : decode cX10_walk 167 = .ok (.goto (-97), 3) := by decide +kernel
theorem dX10_walk_170 : decode cX10_walk 170 = .ok (.iload 4, 2) := by decide +kernel
theorem dX10_walk_172 : decode cX10_walk 172 = .ok (.ireturn, 1) := by decide +kernel
theorem dX10_walkOn_0 : decode cX10_walkOn 0 = .ok (.iconst 0, 1) := by decide +kernel
theorem dX10_walkOn_1 : decode cX10_walkOn 1 = .ok (.istore 5, 2) := by decide +kernel
theorem dX10_walkOn_3 : decode cX10_walkOn 3 = .ok (.iload 5, 2) := by decide +kernel
theorem dX10_walkOn_5 : decode cX10_walkOn 5 = .ok (.bipush 8, 2) := by decide +kernel
theorem dX10_walkOn_7 : decode cX10_walkOn 7 = .ok (.if_icmp .ge 72, 3) := by decide +kernel
theorem dX10_walkOn_10 : decode cX10_walkOn 10 = .ok (.iload_n 1, 1) := by decide +kernel
theorem dX10_walkOn_11 : decode cX10_walkOn 11 = .ok (.iload 5, 2) := by decide +kernel
theorem dX10_walkOn_13 : decode cX10_walkOn 13 = .ok (.ishr, 1) := by decide +kernel
theorem dX10_walkOn_14 : decode cX10_walkOn 14 = .ok (.iconst 1, 1) := by decide +kernel
theorem dX10_walkOn_15 : decode cX10_walkOn 15 = .ok (.iand, 1) := by decide +kernel
theorem dX10_walkOn_16 : decode cX10_walkOn 16 = .ok (.ifCond .eq 57, 3) := by decide +kernel
theorem dX10_walkOn_19 : decode cX10_walkOn 19 = .ok (.iload_n 2, 1) := by decide +kernel
theorem dX10_walkOn_20 : decode cX10_walkOn 20 = .ok (.iconst 1, 1) := by decide +kernel
theorem dX10_walkOn_21 : decode cX10_walkOn 21 = .ok (.iload 5, 2) := by decide +kernel
theorem dX10_walkOn_23 : decode cX10_walkOn 23 = .ok (.ishl, 1) := by decide +kernel
theorem dX10_walkOn_24 : decode cX10_walkOn 24 = .ok (.ior, 1) := by decide +kernel
theorem dX10_walkOn_25 : decode cX10_walkOn 25 = .ok (.bipush 8, 2) := by decide +kernel
theorem dX10_walkOn_27 : decode cX10_walkOn 27 = .ok (.imul, 1) := by decide +kernel
theorem dX10_walkOn_28 : decode cX10_walkOn 28 = .ok (.iload 5, 2) := by decide +kernel
theorem dX10_walkOn_30 : decode cX10_walkOn 30 = .ok (.iadd, 1) := by decide +kernel
theorem dX10_walkOn_31 : decode cX10_walkOn 31 = .ok (.istore 6, 2) := by decide +kernel
theorem dX10_walkOn_33 : decode cX10_walkOn 33 = .ok (.iload 6, 2) := by decide +kernel
theorem dX10_walkOn_35 : decode cX10_walkOn 35 = .ok (.ifCond .lt 38, 3) := by decide +kernel
theorem dX10_walkOn_38 : decode cX10_walkOn 38 = .ok (.iload 6, 2) := by decide +kernel
theorem dX10_walkOn_40 : decode cX10_walkOn 40 = .ok (.sipush 2048, 3) := by decide +kernel
theorem dX10_walkOn_43 : decode cX10_walkOn 43 = .ok (.if_icmp .ge 30, 3) := by decide +kernel
theorem dX10_walkOn_46 : decode cX10_walkOn 46 = .ok (.aload_n 0, 1) := by decide +kernel
theorem dX10_walkOn_47 : decode cX10_walkOn 47 = .ok (.getfield 15, 3) := by decide +kernel
theorem dX10_walkOn_50 : decode cX10_walkOn 50 = .ok (.iload 6, 2) := by decide +kernel
theorem dX10_walkOn_52 : decode cX10_walkOn 52 = .ok (.aload_n 0, 1) := by decide +kernel
theorem dX10_walkOn_53 : decode cX10_walkOn 53 = .ok (.getfield 15, 3) := by decide +kernel
theorem dX10_walkOn_56 : decode cX10_walkOn 56 = .ok (.iload 6, 2) := by decide +kernel
theorem dX10_walkOn_58 : decode cX10_walkOn 58 = .ok (.iaload, 1) := by decide +kernel
theorem dX10_walkOn_59 : decode cX10_walkOn 59 = .ok (.iload 4, 2) := by decide +kernel
theorem dX10_walkOn_61 : decode cX10_walkOn 61 = .ok (.aload_n 0, 1) := by decide +kernel
theorem dX10_walkOn_62 : decode cX10_walkOn 62 = .ok (.iload_n 3, 1) := by decide +kernel
theorem dX10_walkOn_63 : decode cX10_walkOn 63 = .ok (.iload 5, 2) := by decide +kernel
theorem dX10_walkOn_65 : decode cX10_walkOn 65 = .ok (.invokevirtual 57, 3) := by decide +kernel
theorem dX10_walkOn_68 : decode cX10_walkOn 68 = .ok (.iadd, 1) := by decide +kernel
theorem dX10_walkOn_69 : decode cX10_walkOn 69 = .ok (.invokestatic 60, 3) := by decide +kernel
theorem dX10_walkOn_72 : decode cX10_walkOn 72 = .ok (.iastore, 1) := by decide +kernel
theorem dX10_walkOn_73 : decode cX10_walkOn 73 = .ok (.iinc 5 1, 3) := by decide +kernel
theorem dX10_walkOn_76 : decode cX10_walkOn 76 = .ok (.goto (-73), 3) := by decide +kernel
theorem dX10_walkOn_79 : decode cX10_walkOn 79 = .ok (.return_, 1) := by decide +kernel
