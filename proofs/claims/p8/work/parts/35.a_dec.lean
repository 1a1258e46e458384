theorem dX12_state_0 : decode cX12_state 0 = .ok (.aload_n 0, 1) := by decide +kernel
theorem dX12_state_1 : decode cX12_state 1 = .ok (.getfield 217, 3) := by decide +kernel
theorem dX12_state_4 : decode cX12_state 4 = .ok (.bipush 7, 2) := by decide +kernel
theorem dX12_state_6 : decode cX12_state 6 = .ok (.imul, 1) := by decide +kernel
theorem dX12_state_7 : decode cX12_state 7 = .ok (.aload_n 0, 1) := by decide +kernel
theorem dX12_state_8 : decode cX12_state 8 = .ok (.getfield 220, 3) := by decide +kernel
theorem dX12_state_11 : decode cX12_state 11 = .ok (.iconst 0, 1) := by decide +kernel
theorem dX12_state_12 : decode cX12_state 12 = .ok (.iaload, 1) := by decide +kernel
theorem dX12_state_13 : decode cX12_state 13 = .ok (.iadd, 1) := by decide +kernel
theorem dX12_state_14 : decode cX12_state 14 = .ok (.bipush 7, 2) := by decide +kernel
theorem dX12_state_16 : decode cX12_state 16 = .ok (.imul, 1) := by decide +kernel
theorem dX12_state_17 : decode cX12_state 17 = .ok (.aload_n 0, 1) := by decide +kernel
theorem dX12_state_18 : decode cX12_state 18 = .ok (.getfield 220, 3) := by decide +kernel
theorem dX12_state_21 : decode cX12_state 21 = .ok (.iconst 1, 1) := by decide +kernel
theorem dX12_state_22 : decode cX12_state 22 = .ok (.iaload, 1) := by decide +kernel
theorem dX12_state_23 : decode cX12_state 23 = .ok (.iadd, 1) := by decide +kernel
theorem dX12_state_24 : decode cX12_state 24 = .ok (.bipush 7, 2) := by decide +kernel
theorem dX12_state_26 : decode cX12_state 26 = .ok (.imul, 1) := by decide +kernel
theorem dX12_state_27 : decode cX12_state 27 = .ok (.aload_n 0, 1) := by decide +kernel
theorem dX12_state_28 : decode cX12_state 28 = .ok (.getfield 220, 3) := by decide +kernel
theorem dX12_state_31 : decode cX12_state 31 = .ok (.iconst 2, 1) := by decide +kernel
theorem dX12_state_32 : decode cX12_state 32 = .ok (.iaload, 1) := by decide +kernel
theorem dX12_state_33 : decode cX12_state 33 = .ok (.iadd, 1) := by decide +kernel
theorem dX12_state_34 : decode cX12_state 34 = .ok (.bipush 7, 2) := by decide +kernel
theorem dX12_state_36 : decode cX12_state 36 = .ok (.imul, 1) := by decide +kernel
theorem dX12_state_37 : decode cX12_state 37 = .ok (.aload_n 0, 1) := by decide +kernel
theorem dX12_state_38 : decode cX12_state 38 = .ok (.getfield 220, 3) := by decide +kernel
theorem dX12_state_41 : decode cX12_state 41 = .ok (.iconst 3, 1) := by decide +kernel
theorem dX12_state_42 : decode cX12_state 42 = .ok (.iaload, 1) := by decide +kernel
theorem dX12_state_43 : decode cX12_state 43 = .ok (.iadd, 1) := by decide +kernel
theorem dX12_state_44 : decode cX12_state 44 = .ok (.iconst 4, 1) := by decide +kernel
theorem dX12_state_45 : decode cX12_state 45 = .ok (.imul, 1) := by decide +kernel
theorem dX12_state_46 : decode cX12_state 46 = .ok (.aload_n 0, 1) := by decide +kernel
theorem dX12_state_47 : decode cX12_state 47 = .ok (.getfield 223, 3) := by decide +kernel
theorem dX12_state_50 : decode cX12_state 50 = .ok (.iadd, 1) := by decide +kernel
theorem dX12_state_51 : decode cX12_state 51 = .ok (.ireturn, 1) := by decide +kernel
theorem dX12_takes_0 : decode cX12_takes 0 = .ok (.aload_n 0, 1) := by decide +kernel
theorem dX12_takes_1 : decode cX12_takes 1 = .ok (.iload_n 1, 1) := by decide +kernel
theorem dX12_takes_2 : decode cX12_takes 2 = .ok (.iconst 4, 1) := by decide +kernel
theorem dX12_takes_3 : decode cX12_takes 3 = .ok (.irem, 1) := by decide +kernel
theorem dX12_takes_4 : decode cX12_takes 4 = .ok (.putfield 223, 3) := by decide +kernel
theorem dX12_takes_7 : decode cX12_takes 7 = .ok (.iload_n 1, 1) := by decide +kernel
theorem dX12_takes_8 : decode cX12_takes 8 = .ok (.iconst 4, 1) := by decide +kernel
theorem dX12_takes_9 : decode cX12_takes 9 = .ok (.idiv, 1) := by decide +kernel
theorem dX12_takes_10 : decode cX12_takes 10 = .ok (.istore_n 2, 1) := by decide +kernel
theorem dX12_takes_11 : decode cX12_takes 11 = .ok (.iconst 3, 1) := by decide +kernel
theorem dX12_takes_12 : decode cX12_takes 12 = .ok (.istore_n 3, 1) := by decide +kernel
theorem dX12_takes_13 : decode cX12_takes 13 = .ok (.iload_n 3, 1) := by decide +kernel
theorem dX12_takes_14 : decode cX12_takes 14 = .ok (.ifCond .lt 24, 3) := by decide +kernel
theorem dX12_takes_17 : decode cX12_takes 17 = .ok (.aload_n 0, 1) := by decide +kernel
theorem dX12_takes_18 : decode cX12_takes 18 = .ok (.getfield 220, 3) := by decide +kernel
theorem dX12_takes_21 : decode cX12_takes 21 = .ok (.iload_n 3, 1) := by decide +kernel
theorem dX12_takes_22 : decode cX12_takes 22 = .ok (.iload_n 2, 1) := by decide +kernel
theorem dX12_takes_23 : decode cX12_takes 23 = .ok (.bipush 7, 2) := by decide +kernel
theorem dX12_takes_25 : decode cX12_takes 25 = .ok (.irem, 1) := by decide +kernel
theorem dX12_takes_26 : decode cX12_takes 26 = .ok (.iastore, 1) := by decide +kernel
theorem dX12_takes_27 : decode cX12_takes 27 = .ok (.iload_n 2, 1) := by decide +kernel
theorem dX12_takes_28 : decode cX12_takes 28 = .ok (.bipush 7, 2) := by decide +kernel
theorem dX12_takes_30 : decode cX12_takes 30 = .ok (.idiv, 1) := by decide +kernel
theorem dX12_takes_31 : decode cX12_takes 31 = .ok (.istore_n 2, 1) := by decide +kernel
theorem dX12_takes_32 : decode cX12_takes 32 = .ok (.iinc 3 (-1), 3) := by decide +kernel
theorem dX12_takes_35 : decode cX12_takes 35 = .ok (.goto (-22), 3) := by decide +kernel
theorem dX12_takes_38 : decode cX12_takes 38 = .ok (.aload_n 0, 1) := by decide +kernel
theorem dX12_takes_39 : decode cX12_takes 39 = .ok (.iload_n 2, 1) := by decide +kernel
theorem dX12_takes_40 : decode cX12_takes 40 = .ok (.putfield 217, 3) := by decide +kernel
theorem dX12_takes_43 : decode cX12_takes 43 = .ok (.return_, 1) := by decide +kernel
theorem dX12_isClosed_0 : decode cX12_isClosed 0 = .ok (.aload_n 0, 1) := by decide +kernel
theorem dX12_isClosed_1 : decode cX12_isClosed 1 = .ok (.getfield 77, 3) := by decide +kernel
theorem dX12_isClosed_4 : decode cX12_isClosed 4 = .ok (.aload_n 0, 1) := by decide +kernel
theorem dX12_isClosed_5 : decode cX12_isClosed 5 = .ok (.iload_n 1, 1) := by decide +kernel
theorem dX12_isClosed_6 : decode cX12_isClosed 6 = .ok (.invokevirtual 487, 3) := by decide +kernel
theorem dX12_isClosed_9 : decode cX12_isClosed 9 = .ok (.baload, 1) := by decide +kernel
theorem dX12_isClosed_10 : decode cX12_isClosed 10 = .ok (.ifCond .eq 5, 3) := by decide +kernel
theorem dX12_isClosed_13 : decode cX12_isClosed 13 = .ok (.iconst 1, 1) := by decide +kernel
theorem dX12_isClosed_14 : decode cX12_isClosed 14 = .ok (.ireturn, 1) := by decide +kernel
theorem dX12_isClosed_15 : decode cX12_isClosed 15 = .ok (.iconst 0, 1) := by decide +kernel
theorem dX12_isClosed_16 : decode cX12_isClosed 16 = .ok (.istore_n 2, 1) := by decide +kernel
theorem dX12_isClosed_17 : decode cX12_isClosed 17 = .ok (.iload_n 2, 1) := by decide +kernel
theorem dX12_isClosed_18 : decode cX12_isClosed 18 = .ok (.aload_n 0, 1) := by decide +kernel
theorem dX12_isClosed_19 : decode cX12_isClosed 19 = .ok (.getfield 80, 3) := by decide +kernel
theorem dX12_isClosed_22 : decode cX12_isClosed 22 = .ok (.aload_n 0, 1) := by decide +kernel
theorem dX12_isClosed_23 : decode cX12_isClosed 23 = .ok (.getfield 48, 3) := by decide +kernel
theorem dX12_isClosed_26 : decode cX12_isClosed 26 = .ok (.iaload, 1) := by decide +kernel
theorem dX12_isClosed_27 : decode cX12_isClosed 27 = .ok (.if_icmp .ge 48, 3) := by decide +kernel
theorem dX12_isClosed_30 : decode cX12_isClosed 30 = .ok (.iconst 0, 1) := by decide +kernel
theorem dX12_isClosed_31 : decode cX12_isClosed 31 = .ok (.istore_n 3, 1) := by decide +kernel
theorem dX12_isClosed_32 : decode cX12_isClosed 32 = .ok (.iload_n 3, 1) := by decide +kernel
theorem dX12_isClosed_33 : decode cX12_isClosed 33 = .ok (.aload_n 0, 1) := by decide +kernel
theorem dX12_isClosed_34 : decode cX12_isClosed 34 = .ok (.getfield 220, 3) := by decide +kernel
theorem dX12_isClosed_37 : decode cX12_isClosed 37 = .ok (.iload_n 2, 1) := by decide +kernel
theorem dX12_isClosed_38 : decode cX12_isClosed 38 = .ok (.iaload, 1) := by decide +kernel
theorem dX12_isClosed_39 : decode cX12_isClosed 39 = .ok (.if_icmp .ge 30, 3) := by decide +kernel
theorem dX12_isClosed_42 : decode cX12_isClosed 42 = .ok (.aload_n 0, 1) := by decide +kernel
theorem dX12_isClosed_43 : decode cX12_isClosed 43 = .ok (.getfield 92, 3) := by decide +kernel
theorem dX12_isClosed_46 : decode cX12_isClosed 46 = .ok (.bipush 10, 2) := by decide +kernel
theorem dX12_isClosed_48 : decode cX12_isClosed 48 = .ok (.aload_n 0, 1) := by decide +kernel
theorem dX12_isClosed_49 : decode cX12_isClosed 49 = .ok (.iload_n 2, 1) := by decide +kernel
theorem dX12_isClosed_50 : decode cX12_isClosed 50 = .ok (.invokevirtual 484, 3) := by decide +kernel
theorem dX12_isClosed_53 : decode cX12_isClosed 53 = .ok (.imul, 1) := by decide +kernel
theorem dX12_isClosed_54 : decode cX12_isClosed 54 = .ok (.iload_n 3, 1) := by decide +kernel
theorem dX12_isClosed_55 : decode cX12_isClosed 55 = .ok (.iadd, 1) := by decide +kernel
theorem dX12_isClosed_56 : decode cX12_isClosed 56 = .ok (.iaload, 1) := by decide +kernel
theorem dX12_isClosed_57 : decode cX12_isClosed 57 = .ok (.iload_n 1, 1) := by decide +kernel
theorem dX12_isClosed_58 : decode cX12_isClosed 58 = .ok (.if_icmp .ne 5, 3) := by decide +kernel
theorem dX12_isClosed_61 : decode cX12_isClosed 61 = .ok (.iconst 1, 1) := by decide +kernel
theorem dX12_isClosed_62 : decode cX12_isClosed 62 = .ok (.ireturn, 1) := by decide +kernel
theorem dX12_isClosed_63 : decode cX12_isClosed 63 = .ok (.iinc 3 1, 3) := by decide +kernel
theorem dX12_isClosed_66 : decode cX12_isClosed 66 = .ok (.goto (-34), 3) := by decide +kernel
theorem dX12_isClosed_69 : decode cX12_isClosed 69 = .ok (.iinc 2 1, 3) := by decide +kernel
theorem dX12_isClosed_72 : decode cX12_isClosed 72 = .ok (.goto (-55), 3) := by decide +kernel
theorem dX12_isClosed_75 : decode cX12_isClosed 75 = .ok (.iconst 0, 1) := by decide +kernel
theorem dX12_isClosed_76 : decode cX12_isClosed 76 = .ok (.ireturn, 1) := by decide +kernel
theorem dX12_closedNow_0 : decode cX12_closedNow 0 = .ok (.iconst 0, 1) := by decide +kernel
theorem dX12_closedNow_1 : decode cX12_closedNow 1 = .ok (.istore_n 1, 1) := by decide +kernel
theorem dX12_closedNow_2 : decode cX12_closedNow 2 = .ok (.iconst 0, 1) := by decide +kernel
theorem dX12_closedNow_3 : decode cX12_closedNow 3 = .ok (.istore_n 2, 1) := by decide +kernel
theorem dX12_closedNow_4 : decode cX12_closedNow 4 = .ok (.iload_n 2, 1) := by decide +kernel
theorem dX12_closedNow_5 : decode cX12_closedNow 5 = .ok (.aload_n 0, 1) := by decide +kernel
theorem dX12_closedNow_6 : decode cX12_closedNow 6 = .ok (.getfield 58, 3) := by decide +kernel
theorem dX12_closedNow_9 : decode cX12_closedNow 9 = .ok (.aload_n 0, 1) := by decide +kernel
theorem dX12_closedNow_10 : decode cX12_closedNow 10 = .ok (.getfield 48, 3) := by decide +kernel
theorem dX12_closedNow_13 : decode cX12_closedNow 13 = .ok (.iaload, 1) := by decide +kernel
theorem dX12_closedNow_14 : decode cX12_closedNow 14 = .ok (.if_icmp .ge 25, 3) := by decide +kernel
theorem dX12_closedNow_17 : decode cX12_closedNow 17 = .ok (.iload_n 1, 1) := by decide +kernel
theorem dX12_closedNow_18 : decode cX12_closedNow 18 = .ok (.aload_n 0, 1) := by decide +kernel
theorem dX12_closedNow_19 : decode cX12_closedNow 19 = .ok (.iload_n 2, 1) := by decide +kernel
theorem dX12_closedNow_20 : decode cX12_closedNow 20 = .ok (.invokevirtual 567, 3) := by decide +kernel
theorem dX12_closedNow_23 : decode cX12_closedNow 23 = .ok (.ifCond .eq 7, 3) := by decide +kernel
theorem dX12_closedNow_26 : decode cX12_closedNow 26 = .ok (.iconst 1, 1) := by decide +kernel
theorem dX12_closedNow_27 : decode cX12_closedNow 27 = .ok (.goto 4, 3) := by decide +kernel
theorem dX12_closedNow_30 : decode cX12_closedNow 30 = .ok (.iconst 0, 1) := by decide +kernel
theorem dX12_closedNow_31 : decode cX12_closedNow 31 = .ok (.iadd, 1) := by decide +kernel
theorem dX12_closedNow_32 : decode cX12_closedNow 32 = .ok (.istore_n 1, 1) := by decide +kernel
theorem dX12_closedNow_33 : decode cX12_closedNow 33 = .ok (.iinc 2 1, 3) := by decide +kernel
theorem dX12_closedNow_36 : decode cX12_closedNow 36 = .ok (.goto (-32), 3) := by decide +kernel
theorem dX12_closedNow_39 : decode cX12_closedNow 39 = .ok (.iload_n 1, 1) := by decide +kernel
theorem dX12_closedNow_40 : decode cX12_closedNow 40 = .ok (.ireturn, 1) := by decide +kernel
theorem dX12_haves_0 : decode cX12_haves 0 = .ok (.iconst 0, 1) := by decide +kernel
theorem dX12_haves_1 : decode cX12_haves 1 = .ok (.istore_n 1, 1) := by decide +kernel
theorem dX12_haves_2 : decode cX12_haves 2 = .ok (.iload_n 1, 1) := by decide +kernel
theorem dX12_haves_3 : decode cX12_haves 3 = .ok (.aload_n 0, 1) := by decide +kernel
theorem dX12_haves_4 : decode cX12_haves 4 = .ok (.getfield 235, 3) := by decide +kernel
theorem dX12_haves_7 : decode cX12_haves 7 = .ok (.if_icmp .ge 110, 3) := by decide +kernel
theorem dX12_haves_10 : decode cX12_haves 10 = .ok (.aload_n 0, 1) := by decide +kernel
theorem dX12_haves_11 : decode cX12_haves 11 = .ok (.getfield 110, 3) := by decide +kernel
theorem dX12_haves_14 : decode cX12_haves 14 = .ok (.iconst 4, 1) := by decide +kernel
theorem dX12_haves_15 : decode cX12_haves 15 = .ok (.aload_n 0, 1) := by decide +kernel
theorem dX12_haves_16 : decode cX12_haves 16 = .ok (.getfield 48, 3) := by decide +kernel
theorem dX12_haves_19 : decode cX12_haves 19 = .ok (.imul, 1) := by decide +kernel
theorem dX12_haves_20 : decode cX12_haves 20 = .ok (.aload_n 0, 1) := by decide +kernel
theorem dX12_haves_21 : decode cX12_haves 21 = .ok (.getfield 232, 3) := by decide +kernel
theorem dX12_haves_24 : decode cX12_haves 24 = .ok (.iload_n 1, 1) := by decide +kernel
theorem dX12_haves_25 : decode cX12_haves 25 = .ok (.iaload, 1) := by decide +kernel
theorem dX12_haves_26 : decode cX12_haves 26 = .ok (.iadd, 1) := by decide +kernel
theorem dX12_haves_27 : decode cX12_haves 27 = .ok (.iaload, 1) := by decide +kernel
theorem dX12_haves_28 : decode cX12_haves 28 = .ok (.istore_n 2, 1) := by decide +kernel
theorem dX12_haves_29 : decode cX12_haves 29 = .ok (.iload_n 2, 1) := by decide +kernel
theorem dX12_haves_30 : decode cX12_haves 30 = .ok (.bipush 20, 2) := by decide +kernel
theorem dX12_haves_32 : decode cX12_haves 32 = .ok (.if_icmp .ge 22, 3) := by decide +kernel
theorem dX12_haves_35 : decode cX12_haves 35 = .ok (.iload_n 2, 1) := by decide +kernel
theorem dX12_haves_36 : decode cX12_haves 36 = .ok (.bipush 10, 2) := by decide +kernel
theorem dX12_haves_38 : decode cX12_haves 38 = .ok (.isub, 1) := by decide +kernel
theorem dX12_haves_39 : decode cX12_haves 39 = .ok (.aload_n 0, 1) := by decide +kernel
theorem dX12_haves_40 : decode cX12_haves 40 = .ok (.getfield 217, 3) := by decide +kernel
theorem dX12_haves_43 : decode cX12_haves 43 = .ok (.if_icmp .ne 7, 3) := by decide +kernel
theorem dX12_haves_46 : decode cX12_haves 46 = .ok (.iconst 1, 1) := by decide +kernel
theorem dX12_haves_47 : decode cX12_haves 47 = .ok (.goto 43, 3) := by decide +kernel
theorem dX12_haves_50 : decode cX12_haves 50 = .ok (.iconst 0, 1) := by decide +kernel
theorem dX12_haves_51 : decode cX12_haves 51 = .ok (.goto 39, 3) := by decide +kernel
theorem dX12_haves_54 : decode cX12_haves 54 = .ok (.aload_n 0, 1) := by decide +kernel
theorem dX12_haves_55 : decode cX12_haves 55 = .ok (.getfield 64, 3) := by decide +kernel
theorem dX12_haves_58 : decode cX12_haves 58 = .ok (.aload_n 0, 1) := by decide +kernel
theorem dX12_haves_59 : decode cX12_haves 59 = .ok (.iload_n 2, 1) := by decide +kernel
theorem dX12_haves_60 : decode cX12_haves 60 = .ok (.bipush 20, 2) := by decide +kernel
theorem dX12_haves_62 : decode cX12_haves 62 = .ok (.isub, 1) := by decide +kernel
theorem dX12_haves_63 : decode cX12_haves 63 = .ok (.invokevirtual 487, 3) := by decide +kernel
theorem dX12_haves_66 : decode cX12_haves 66 = .ok (.iaload, 1) := by decide +kernel
theorem dX12_haves_67 : decode cX12_haves 67 = .ok (.aload_n 0, 1) := by decide +kernel
theorem dX12_haves_68 : decode cX12_haves 68 = .ok (.getfield 217, 3) := by decide +kernel
theorem dX12_haves_71 : decode cX12_haves 71 = .ok (.if_icmp .ne 18, 3) := by decide +kernel
theorem dX12_haves_74 : decode cX12_haves 74 = .ok (.aload_n 0, 1) := by decide +kernel
theorem dX12_haves_75 : decode cX12_haves 75 = .ok (.iload_n 2, 1) := by decide +kernel
theorem dX12_haves_76 : decode cX12_haves 76 = .ok (.bipush 20, 2) := by decide +kernel
theorem dX12_haves_78 : decode cX12_haves 78 = .ok (.isub, 1) := by decide +kernel
theorem dX12_haves_79 : decode cX12_haves 79 = .ok (.invokevirtual 567, 3) := by decide +kernel
theorem dX12_haves_82 : decode cX12_haves 82 = .ok (.ifCond .ne 7, 3) := by decide +kernel
theorem dX12_haves_85 : decode cX12_haves 85 = .ok (.iconst 1, 1) := by decide +kernel
theorem dX12_haves_86 : decode cX12_haves 86 = .ok (.goto 4, 3) := by decide +kernel
theorem dX12_haves_89 : decode cX12_haves 89 = .ok (.iconst 0, 1) := by decide +kernel
theorem dX12_haves_90 : decode cX12_haves 90 = .ok (.istore_n 3, 1) := by decide +kernel
theorem dX12_haves_91 : decode cX12_haves 91 = .ok (.aload_n 0, 1) := by decide +kernel
theorem dX12_haves_92 : decode cX12_haves 92 = .ok (.dup, 1) := by decide +kernel
theorem dX12_haves_93 : decode cX12_haves 93 = .ok (.getfield 223, 3) := by decide +kernel
theorem dX12_haves_96 : decode cX12_haves 96 = .ok (.iload_n 3, 1) := by decide +kernel
theorem dX12_haves_97 : decode cX12_haves 97 = .ok (.ifCond .eq 9, 3) := by decide +kernel
theorem dX12_haves_100 : decode cX12_haves 100 = .ok (.iconst 1, 1) := by decide +kernel
theorem dX12_haves_101 : decode cX12_haves 101 = .ok (.iload_n 1, 1) := by decide +kernel
theorem dX12_haves_102 : decode cX12_haves 102 = .ok (.ishl, 1) := by decide +kernel
theorem dX12_haves_103 : decode cX12_haves 103 = .ok (.goto 4, 3) := by decide +kernel
theorem dX12_haves_106 : decode cX12_haves 106 = .ok (.iconst 0, 1) := by decide +kernel
theorem dX12_haves_107 : decode cX12_haves 107 = .ok (.ior, 1) := by decide +kernel
theorem dX12_haves_108 : decode cX12_haves 108 = .ok (.putfield 223, 3) := by decide +kernel
theorem dX12_haves_111 : decode cX12_haves 111 = .ok (.iinc 1 1, 3) := by decide +kernel
theorem dX12_haves_114 : decode cX12_haves 114 = .ok (.goto (-112), 3) := by decide +kernel
theorem dX12_haves_117 : decode cX12_haves 117 = .ok (.return_, 1) := by decide +kernel
theorem dX12_actsTo_0 : decode cX12_actsTo 0 = .ok (.iconst 0, 1) := by decide +kernel
theorem dX12_actsTo_1 : decode cX12_actsTo 1 = .ok (.istore_n 2, 1) := by decide +kernel
theorem dX12_actsTo_2 : decode cX12_actsTo 2 = .ok (.iload_n 2, 1) := by decide +kernel
theorem dX12_actsTo_3 : decode cX12_actsTo 3 = .ok (.aload_n 0, 1) := by decide +kernel
theorem dX12_actsTo_4 : decode cX12_actsTo 4 = .ok (.getfield 214, 3) := by decide +kernel
theorem dX12_actsTo_7 : decode cX12_actsTo 7 = .ok (.if_icmp .ge 39, 3) := by decide +kernel
theorem dX12_actsTo_10 : decode cX12_actsTo 10 = .ok (.aload_n 0, 1) := by decide +kernel
theorem dX12_actsTo_11 : decode cX12_actsTo 11 = .ok (.aload_n 0, 1) := by decide +kernel
theorem dX12_actsTo_12 : decode cX12_actsTo 12 = .ok (.getfield 211, 3) := by decide +kernel
theorem dX12_actsTo_15 : decode cX12_actsTo 15 = .ok (.iload_n 2, 1) := by decide +kernel
theorem dX12_actsTo_16 : decode cX12_actsTo 16 = .ok (.iaload, 1) := by decide +kernel
theorem dX12_actsTo_17 : decode cX12_actsTo 17 = .ok (.invokevirtual 581, 3) := by decide +kernel
theorem dX12_actsTo_20 : decode cX12_actsTo 20 = .ok (.aload_n 0, 1) := by decide +kernel
theorem dX12_actsTo_21 : decode cX12_actsTo 21 = .ok (.getfield 217, 3) := by decide +kernel
theorem dX12_actsTo_24 : decode cX12_actsTo 24 = .ok (.iload_n 1, 1) := by decide +kernel
theorem dX12_actsTo_25 : decode cX12_actsTo 25 = .ok (.if_icmp .ne 15, 3) := by decide +kernel
theorem dX12_actsTo_28 : decode cX12_actsTo 28 = .ok (.aload_n 0, 1) := by decide +kernel
theorem dX12_actsTo_29 : decode cX12_actsTo 29 = .ok (.getfield 208, 3) := by decide +kernel
theorem dX12_actsTo_32 : decode cX12_actsTo 32 = .ok (.aload_n 0, 1) := by decide +kernel
theorem dX12_actsTo_33 : decode cX12_actsTo 33 = .ok (.getfield 211, 3) := by decide +kernel
theorem dX12_actsTo_36 : decode cX12_actsTo 36 = .ok (.iload_n 2, 1) := by decide +kernel
theorem dX12_actsTo_37 : decode cX12_actsTo 37 = .ok (.iaload, 1) := by decide +kernel
theorem dX12_actsTo_38 : decode cX12_actsTo 38 = .ok (.iaload, 1) := by decide +kernel
theorem dX12_actsTo_39 : decode cX12_actsTo 39 = .ok (.ireturn, 1) := by decide +kernel
theorem dX12_actsTo_40 : decode cX12_actsTo 40 = .ok (.iinc 2 1, 3) := by decide +kernel
theorem dX12_actsTo_43 : decode cX12_actsTo 43 = .ok (.goto (-41), 3) := by decide +kernel
theorem dX12_actsTo_46 : decode cX12_actsTo 46 = .ok (.iconst (-1), 1) := by decide +kernel
theorem dX12_actsTo_47 : decode cX12_actsTo 47 = .ok (.ireturn, 1) := by decide +kernel
theorem dX12_canOpen_0 : decode cX12_canOpen 0 = .ok (.aload_n 0, 1) := by decide +kernel
theorem dX12_canOpen_1 : decode cX12_canOpen 1 = .ok (.getfield 77, 3) := by decide +kernel
theorem dX12_canOpen_4 : decode cX12_canOpen 4 = .ok (.aload_n 0, 1) := by decide +kernel
theorem dX12_canOpen_5 : decode cX12_canOpen 5 = .ok (.iload_n 2, 1) := by decide +kernel
theorem dX12_canOpen_6 : decode cX12_canOpen 6 = .ok (.invokevirtual 487, 3) := by decide +kernel
theorem dX12_canOpen_9 : decode cX12_canOpen 9 = .ok (.baload, 1) := by decide +kernel
theorem dX12_canOpen_10 : decode cX12_canOpen 10 = .ok (.ifCond .eq 5, 3) := by decide +kernel
theorem dX12_canOpen_13 : decode cX12_canOpen 13 = .ok (.iconst 0, 1) := by decide +kernel
theorem dX12_canOpen_14 : decode cX12_canOpen 14 = .ok (.ireturn, 1) := by decide +kernel
theorem dX12_canOpen_15 : decode cX12_canOpen 15 = .ok (.iconst 0, 1) := by decide +kernel
theorem dX12_canOpen_16 : decode cX12_canOpen 16 = .ok (.istore_n 3, 1) := by decide +kernel
theorem dX12_canOpen_17 : decode cX12_canOpen 17 = .ok (.iload_n 3, 1) := by decide +kernel
theorem dX12_canOpen_18 : decode cX12_canOpen 18 = .ok (.aload_n 0, 1) := by decide +kernel
theorem dX12_canOpen_19 : decode cX12_canOpen 19 = .ok (.getfield 80, 3) := by decide +kernel
theorem dX12_canOpen_22 : decode cX12_canOpen 22 = .ok (.aload_n 0, 1) := by decide +kernel
theorem dX12_canOpen_23 : decode cX12_canOpen 23 = .ok (.getfield 48, 3) := by decide +kernel
theorem dX12_canOpen_26 : decode cX12_canOpen 26 = .ok (.iaload, 1) := by decide +kernel
theorem dX12_canOpen_27 : decode cX12_canOpen 27 = .ok (.if_icmp .ge 48, 3) := by decide +kernel
theorem dX12_canOpen_30 : decode cX12_canOpen 30 = .ok (.aload_n 0, 1) := by decide +kernel
theorem dX12_canOpen_31 : decode cX12_canOpen 31 = .ok (.getfield 86, 3) := by decide +kernel
theorem dX12_canOpen_34 : decode cX12_canOpen 34 = .ok (.aload_n 0, 1) := by decide +kernel
theorem dX12_canOpen_35 : decode cX12_canOpen 35 = .ok (.iload_n 3, 1) := by decide +kernel
theorem dX12_canOpen_36 : decode cX12_canOpen 36 = .ok (.invokevirtual 484, 3) := by decide +kernel
theorem dX12_canOpen_39 : decode cX12_canOpen 39 = .ok (.iaload, 1) := by decide +kernel
theorem dX12_canOpen_40 : decode cX12_canOpen 40 = .ok (.istore 4, 2) := by decide +kernel
theorem dX12_canOpen_42 : decode cX12_canOpen 42 = .ok (.aload_n 0, 1) := by decide +kernel
theorem dX12_canOpen_43 : decode cX12_canOpen 43 = .ok (.iload_n 3, 1) := by decide +kernel
theorem dX12_canOpen_44 : decode cX12_canOpen 44 = .ok (.iload_n 2, 1) := by decide +kernel
theorem dX12_canOpen_45 : decode cX12_canOpen 45 = .ok (.invokevirtual 490, 3) := by decide +kernel
theorem dX12_canOpen_48 : decode cX12_canOpen 48 = .ok (.ifCond .eq 21, 3) := by decide +kernel
theorem dX12_canOpen_51 : decode cX12_canOpen 51 = .ok (.iload 4, 2) := by decide +kernel
theorem dX12_canOpen_53 : decode cX12_canOpen 53 = .ok (.bipush 10, 2) := by decide +kernel
theorem dX12_canOpen_55 : decode cX12_canOpen 55 = .ok (.if_icmp .ge 12, 3) := by decide +kernel
theorem dX12_canOpen_58 : decode cX12_canOpen 58 = .ok (.iload_n 1, 1) := by decide +kernel
theorem dX12_canOpen_59 : decode cX12_canOpen 59 = .ok (.iload 4, 2) := by decide +kernel
theorem dX12_canOpen_61 : decode cX12_canOpen 61 = .ok (.ishr, 1) := by decide +kernel
theorem dX12_canOpen_62 : decode cX12_canOpen 62 = .ok (.iconst 1, 1) := by decide +kernel
theorem dX12_canOpen_63 : decode cX12_canOpen 63 = .ok (.iand, 1) := by decide +kernel
theorem dX12_canOpen_64 : decode cX12_canOpen 64 = .ok (.ifCond .ne 5, 3) := by decide +kernel
theorem dX12_canOpen_67 : decode cX12_canOpen 67 = .ok (.iconst 0, 1) := by decide +kernel
theorem dX12_canOpen_68 : decode cX12_canOpen 68 = .ok (.ireturn, 1) := by decide +kernel
theorem dX12_canOpen_69 : decode cX12_canOpen 69 = .ok (.iinc 3 1, 3) := by decide +kernel
theorem dX12_canOpen_72 : decode cX12_canOpen 72 = .ok (.goto (-55), 3) := by decide +kernel
theorem dX12_canOpen_75 : decode cX12_canOpen 75 = .ok (.iconst 1, 1) := by decide +kernel
theorem dX12_canOpen_76 : decode cX12_canOpen 76 = .ok (.ireturn, 1) := by decide +kernel
theorem dX12_can_0 : decode cX12_can 0 = .ok (.iload_n 1, 1) := by decide +kernel
theorem dX12_can_1 : decode cX12_can 1 = .ok (.iconst 0, 1) := by decide +kernel
theorem dX12_can_2 : decode cX12_can 2 = .ok (.iconst 1, 1) := by decide +kernel
theorem dX12_can_3 : decode cX12_can 3 = .ok (.aload_n 0, 1) := by decide +kernel
theorem dX12_can_4 : decode cX12_can 4 = .ok (.getfield 95, 3) := by decide +kernel
theorem dX12_can_7 : decode cX12_can 7 = .ok (.aload_n 0, 1) := by decide +kernel
theorem dX12_can_8 : decode cX12_can 8 = .ok (.getfield 48, 3) := by decide +kernel
theorem dX12_can_11 : decode cX12_can 11 = .ok (.iaload, 1) := by decide +kernel
theorem dX12_can_12 : decode cX12_can 12 = .ok (.ishl, 1) := by decide +kernel
theorem dX12_can_13 : decode cX12_can 13 = .ok (.iconst 1, 1) := by decide +kernel
theorem dX12_can_14 : decode cX12_can 14 = .ok (.isub, 1) := by decide +kernel
theorem dX12_can_15 : decode cX12_can 15 = .ok (.invokestatic 352, 3) := by decide +kernel
theorem dX12_can_18 : decode cX12_can 18 = .ok (.ifCond .eq 11, 3) := by decide +kernel
theorem dX12_can_21 : decode cX12_can 21 = .ok (.aload_n 0, 1) := by decide +kernel
theorem dX12_can_22 : decode cX12_can 22 = .ok (.iload_n 2, 1) := by decide +kernel
theorem dX12_can_23 : decode cX12_can 23 = .ok (.invokevirtual 507, 3) := by decide +kernel
theorem dX12_can_26 : decode cX12_can 26 = .ok (.ifCond .ne 7, 3) := by decide +kernel
theorem dX12_can_29 : decode cX12_can 29 = .ok (.iconst (-1), 1) := by decide +kernel
theorem dX12_can_30 : decode cX12_can 30 = .ok (.goto 17, 3) := by decide +kernel
theorem dX12_can_33 : decode cX12_can 33 = .ok (.aload_n 0, 1) := by decide +kernel
theorem dX12_can_34 : decode cX12_can 34 = .ok (.iload_n 1, 1) := by decide +kernel
theorem dX12_can_35 : decode cX12_can 35 = .ok (.iload_n 2, 1) := by decide +kernel
theorem dX12_can_36 : decode cX12_can 36 = .ok (.invokevirtual 603, 3) := by decide +kernel
theorem dX12_can_39 : decode cX12_can 39 = .ok (.ifCond .eq 7, 3) := by decide +kernel
theorem dX12_can_42 : decode cX12_can 42 = .ok (.iconst 1, 1) := by decide +kernel
theorem dX12_can_43 : decode cX12_can 43 = .ok (.goto 4, 3) := by decide +kernel
theorem dX12_can_46 : decode cX12_can 46 = .ok (.iconst 0, 1) := by decide +kernel
theorem dX12_can_47 : decode cX12_can 47 = .ok (.ireturn, 1) := by decide +kernel
theorem dX12_needs_0 : decode cX12_needs 0 = .ok (.aload_n 0, 1) := by decide +kernel
theorem dX12_needs_1 : decode cX12_needs 1 = .ok (.iload_n 1, 1) := by decide +kernel
theorem dX12_needs_2 : decode cX12_needs 2 = .ok (.invokevirtual 507, 3) := by decide +kernel
theorem dX12_needs_5 : decode cX12_needs 5 = .ok (.ifCond .eq 33, 3) := by decide +kernel
theorem dX12_needs_8 : decode cX12_needs 8 = .ok (.iload_n 2, 1) := by decide +kernel
theorem dX12_needs_9 : decode cX12_needs 9 = .ok (.ifCond .eq 8, 3) := by decide +kernel
theorem dX12_needs_12 : decode cX12_needs 12 = .ok (.iload_n 2, 1) := by decide +kernel
theorem dX12_needs_13 : decode cX12_needs 13 = .ok (.iconst 1, 1) := by decide +kernel
theorem dX12_needs_14 : decode cX12_needs 14 = .ok (.if_icmp .ne 24, 3) := by decide +kernel
theorem dX12_needs_17 : decode cX12_needs 17 = .ok (.aload_n 0, 1) := by decide +kernel
theorem dX12_needs_18 : decode cX12_needs 18 = .ok (.iconst 1, 1) := by decide +kernel
theorem dX12_needs_19 : decode cX12_needs 19 = .ok (.aload_n 0, 1) := by decide +kernel
theorem dX12_needs_20 : decode cX12_needs 20 = .ok (.getfield 95, 3) := by decide +kernel
theorem dX12_needs_23 : decode cX12_needs 23 = .ok (.aload_n 0, 1) := by decide +kernel
theorem dX12_needs_24 : decode cX12_needs 24 = .ok (.getfield 48, 3) := by decide +kernel
theorem dX12_needs_27 : decode cX12_needs 27 = .ok (.iaload, 1) := by decide +kernel
theorem dX12_needs_28 : decode cX12_needs 28 = .ok (.ishl, 1) := by decide +kernel
theorem dX12_needs_29 : decode cX12_needs 29 = .ok (.iconst 1, 1) := by decide +kernel
theorem dX12_needs_30 : decode cX12_needs 30 = .ok (.isub, 1) := by decide +kernel
theorem dX12_needs_31 : decode cX12_needs 31 = .ok (.iload_n 1, 1) := by decide +kernel
theorem dX12_needs_32 : decode cX12_needs 32 = .ok (.invokevirtual 603, 3) := by decide +kernel
theorem dX12_needs_35 : decode cX12_needs 35 = .ok (.ifCond .ne 5, 3) := by decide +kernel
theorem dX12_needs_38 : decode cX12_needs 38 = .ok (.iconst (-1), 1) := by decide +kernel
theorem dX12_needs_39 : decode cX12_needs 39 = .ok (.ireturn, 1) := by decide +kernel
theorem dX12_needs_40 : decode cX12_needs 40 = .ok (.iconst 0, 1) := by decide +kernel
theorem dX12_needs_41 : decode cX12_needs 41 = .ok (.istore_n 3, 1) := by decide +kernel
theorem dX12_needs_42 : decode cX12_needs 42 = .ok (.iconst 0, 1) := by decide +kernel
theorem dX12_needs_43 : decode cX12_needs 43 = .ok (.istore 4, 2) := by decide +kernel
theorem dX12_needs_45 : decode cX12_needs 45 = .ok (.iconst 0, 1) := by decide +kernel
theorem dX12_needs_46 : decode cX12_needs 46 = .ok (.istore 5, 2) := by decide +kernel
theorem dX12_needs_48 : decode cX12_needs 48 = .ok (.iload 5, 2) := by decide +kernel
theorem dX12_needs_50 : decode cX12_needs 50 = .ok (.aload_n 0, 1) := by decide +kernel
theorem dX12_needs_51 : decode cX12_needs 51 = .ok (.getfield 80, 3) := by decide +kernel
theorem dX12_needs_54 : decode cX12_needs 54 = .ok (.aload_n 0, 1) := by decide +kernel
theorem dX12_needs_55 : decode cX12_needs 55 = .ok (.getfield 48, 3) := by decide +kernel
theorem dX12_needs_58 : decode cX12_needs 58 = .ok (.iaload, 1) := by decide +kernel
theorem dX12_needs_59 : decode cX12_needs 59 = .ok (.if_icmp .ge 88, 3) := by decide +kernel
theorem dX12_needs_62 : decode cX12_needs 62 = .ok (.aload_n 0, 1) := by decide +kernel
theorem dX12_needs_63 : decode cX12_needs 63 = .ok (.getfield 89, 3) := by decide +kernel
theorem dX12_needs_66 : decode cX12_needs 66 = .ok (.aload_n 0, 1) := by decide +kernel
theorem dX12_needs_67 : decode cX12_needs 67 = .ok (.iload 5, 2) := by decide +kernel
theorem dX12_needs_69 : decode cX12_needs 69 = .ok (.invokevirtual 484, 3) := by decide +kernel
theorem dX12_needs_72 : decode cX12_needs 72 = .ok (.iaload, 1) := by decide +kernel
theorem dX12_needs_73 : decode cX12_needs 73 = .ok (.istore 6, 2) := by decide +kernel
theorem dX12_needs_75 : decode cX12_needs 75 = .ok (.iconst 0, 1) := by decide +kernel
theorem dX12_needs_76 : decode cX12_needs 76 = .ok (.istore 7, 2) := by decide +kernel
theorem dX12_needs_78 : decode cX12_needs 78 = .ok (.iload 7, 2) := by decide +kernel
theorem dX12_needs_80 : decode cX12_needs 80 = .ok (.iload 6, 2) := by decide +kernel
theorem dX12_needs_82 : decode cX12_needs 82 = .ok (.if_icmp .ge 59, 3) := by decide +kernel
theorem dX12_needs_85 : decode cX12_needs 85 = .ok (.aload_n 0, 1) := by decide +kernel
theorem dX12_needs_86 : decode cX12_needs 86 = .ok (.getfield 92, 3) := by decide +kernel
theorem dX12_needs_89 : decode cX12_needs 89 = .ok (.bipush 10, 2) := by decide +kernel
theorem dX12_needs_91 : decode cX12_needs 91 = .ok (.aload_n 0, 1) := by decide +kernel
theorem dX12_needs_92 : decode cX12_needs 92 = .ok (.iload 5, 2) := by decide +kernel
theorem dX12_needs_94 : decode cX12_needs 94 = .ok (.invokevirtual 484, 3) := by decide +kernel
theorem dX12_needs_97 : decode cX12_needs 97 = .ok (.imul, 1) := by decide +kernel
theorem dX12_needs_98 : decode cX12_needs 98 = .ok (.iload 7, 2) := by decide +kernel
theorem dX12_needs_100 : decode cX12_needs 100 = .ok (.iadd, 1) := by decide +kernel
theorem dX12_needs_101 : decode cX12_needs 101 = .ok (.iaload, 1) := by decide +kernel
theorem dX12_needs_102 : decode cX12_needs 102 = .ok (.iload_n 1, 1) := by decide +kernel
theorem dX12_needs_103 : decode cX12_needs 103 = .ok (.if_icmp .eq 6, 3) := by decide +kernel
theorem dX12_needs_106 : decode cX12_needs 106 = .ok (.goto 29, 3) := by decide +kernel
theorem dX12_needs_109 : decode cX12_needs 109 = .ok (.iload_n 3, 1) := by decide +kernel
theorem dX12_needs_110 : decode cX12_needs 110 = .ok (.iconst 1, 1) := by decide +kernel
theorem dX12_needs_111 : decode cX12_needs 111 = .ok (.aload_n 0, 1) := by decide +kernel
theorem dX12_needs_112 : decode cX12_needs 112 = .ok (.getfield 86, 3) := by decide +kernel
theorem dX12_needs_115 : decode cX12_needs 115 = .ok (.aload_n 0, 1) := by decide +kernel
theorem dX12_needs_116 : decode cX12_needs 116 = .ok (.iload 5, 2) := by decide +kernel
theorem dX12_needs_118 : decode cX12_needs 118 = .ok (.invokevirtual 484, 3) := by decide +kernel
theorem dX12_needs_121 : decode cX12_needs 121 = .ok (.iaload, 1) := by decide +kernel
theorem dX12_needs_122 : decode cX12_needs 122 = .ok (.ishl, 1) := by decide +kernel
theorem dX12_needs_123 : decode cX12_needs 123 = .ok (.ior, 1) := by decide +kernel
theorem dX12_needs_124 : decode cX12_needs 124 = .ok (.istore_n 3, 1) := by decide +kernel
theorem dX12_needs_125 : decode cX12_needs 125 = .ok (.iload 4, 2) := by decide +kernel
theorem dX12_needs_127 : decode cX12_needs 127 = .ok (.iload 6, 2) := by decide +kernel
theorem dX12_needs_129 : decode cX12_needs 129 = .ok (.iload 7, 2) := by decide +kernel
theorem dX12_needs_131 : decode cX12_needs 131 = .ok (.isub, 1) := by decide +kernel
theorem dX12_needs_132 : decode cX12_needs 132 = .ok (.iadd, 1) := by decide +kernel
theorem dX12_needs_133 : decode cX12_needs 133 = .ok (.istore 4, 2) := by decide +kernel
theorem dX12_needs_135 : decode cX12_needs 135 = .ok (.iinc 7 1, 3) := by decide +kernel
theorem dX12_needs_138 : decode cX12_needs 138 = .ok (.goto (-60), 3) := by decide +kernel
theorem dX12_needs_141 : decode cX12_needs 141 = .ok (.iinc 5 1, 3) := by decide +kernel
theorem dX12_needs_144 : decode cX12_needs 144 = .ok (.goto (-96), 3) := by decide +kernel
theorem dX12_needs_147 : decode cX12_needs 147 = .ok (.iload_n 2, 1) := by decide +kernel
theorem dX12_needs_148 : decode cX12_needs 148 = .ok (.ifCond .ne 10, 3) := by decide +kernel
theorem dX12_needs_151 : decode cX12_needs 151 = .ok (.iload_n 3, 1) := by decide +kernel
theorem dX12_needs_152 : decode cX12_needs 152 = .ok (.invokestatic 529, 3) := by decide +kernel
theorem dX12_needs_155 : decode cX12_needs 155 = .ok (.goto 5, 3) := by decide +kernel
theorem dX12_needs_158 : decode cX12_needs 158 = .ok (.iload 4, 2) := by decide +kernel
theorem dX12_needs_160 : decode cX12_needs 160 = .ok (.ireturn, 1) := by decide +kernel
theorem dX12_crosses_0 : decode cX12_crosses 0 = .ok (.bipush 6, 2) := by decide +kernel
theorem dX12_crosses_2 : decode cX12_crosses 2 = .ok (.aload_n 0, 1) := by decide +kernel
theorem dX12_crosses_3 : decode cX12_crosses 3 = .ok (.getfield 48, 3) := by decide +kernel
theorem dX12_crosses_6 : decode cX12_crosses 6 = .ok (.imul, 1) := by decide +kernel
theorem dX12_crosses_7 : decode cX12_crosses 7 = .ok (.iload_n 1, 1) := by decide +kernel
theorem dX12_crosses_8 : decode cX12_crosses 8 = .ok (.iadd, 1) := by decide +kernel
theorem dX12_crosses_9 : decode cX12_crosses 9 = .ok (.istore_n 3, 1) := by decide +kernel
theorem dX12_crosses_10 : decode cX12_crosses 10 = .ok (.bipush 6, 2) := by decide +kernel
theorem dX12_crosses_12 : decode cX12_crosses 12 = .ok (.aload_n 0, 1) := by decide +kernel
theorem dX12_crosses_13 : decode cX12_crosses 13 = .ok (.getfield 48, 3) := by decide +kernel
theorem dX12_crosses_16 : decode cX12_crosses 16 = .ok (.imul, 1) := by decide +kernel
theorem dX12_crosses_17 : decode cX12_crosses 17 = .ok (.iload_n 2, 1) := by decide +kernel
theorem dX12_crosses_18 : decode cX12_crosses 18 = .ok (.iadd, 1) := by decide +kernel
theorem dX12_crosses_19 : decode cX12_crosses 19 = .ok (.istore 4, 2) := by decide +kernel
theorem dX12_crosses_21 : decode cX12_crosses 21 = .ok (.aload_n 0, 1) := by decide +kernel
theorem dX12_crosses_22 : decode cX12_crosses 22 = .ok (.getfield 128, 3) := by decide +kernel
theorem dX12_crosses_25 : decode cX12_crosses 25 = .ok (.iload_n 3, 1) := by decide +kernel
theorem dX12_crosses_26 : decode cX12_crosses 26 = .ok (.iaload, 1) := by decide +kernel
theorem dX12_crosses_27 : decode cX12_crosses 27 = .ok (.aload_n 0, 1) := by decide +kernel
theorem dX12_crosses_28 : decode cX12_crosses 28 = .ok (.getfield 128, 3) := by decide +kernel
theorem dX12_crosses_31 : decode cX12_crosses 31 = .ok (.iload 4, 2) := by decide +kernel
theorem dX12_crosses_33 : decode cX12_crosses 33 = .ok (.iaload, 1) := by decide +kernel
theorem dX12_crosses_34 : decode cX12_crosses 34 = .ok (.if_icmp .ge 39, 3) := by decide +kernel
theorem dX12_crosses_37 : decode cX12_crosses 37 = .ok (.aload_n 0, 1) := by decide +kernel
theorem dX12_crosses_38 : decode cX12_crosses 38 = .ok (.getfield 128, 3) := by decide +kernel
theorem dX12_crosses_41 : decode cX12_crosses 41 = .ok (.iload 4, 2) := by decide +kernel
theorem dX12_crosses_43 : decode cX12_crosses 43 = .ok (.iaload, 1) := by decide +kernel
theorem dX12_crosses_44 : decode cX12_crosses 44 = .ok (.aload_n 0, 1) := by decide +kernel
theorem dX12_crosses_45 : decode cX12_crosses 45 = .ok (.getfield 131, 3) := by decide +kernel
theorem dX12_crosses_48 : decode cX12_crosses 48 = .ok (.iload_n 3, 1) := by decide +kernel
theorem dX12_crosses_49 : decode cX12_crosses 49 = .ok (.iaload, 1) := by decide +kernel
theorem dX12_crosses_50 : decode cX12_crosses 50 = .ok (.if_icmp .ge 23, 3) := by decide +kernel
theorem dX12_crosses_53 : decode cX12_crosses 53 = .ok (.aload_n 0, 1) := by decide +kernel
theorem dX12_crosses_54 : decode cX12_crosses 54 = .ok (.getfield 131, 3) := by decide +kernel
theorem dX12_crosses_57 : decode cX12_crosses 57 = .ok (.iload_n 3, 1) := by decide +kernel
theorem dX12_crosses_58 : decode cX12_crosses 58 = .ok (.iaload, 1) := by decide +kernel
theorem dX12_crosses_59 : decode cX12_crosses 59 = .ok (.aload_n 0, 1) := by decide +kernel
theorem dX12_crosses_60 : decode cX12_crosses 60 = .ok (.getfield 131, 3) := by decide +kernel
theorem dX12_crosses_63 : decode cX12_crosses 63 = .ok (.iload 4, 2) := by decide +kernel
theorem dX12_crosses_65 : decode cX12_crosses 65 = .ok (.iaload, 1) := by decide +kernel
theorem dX12_crosses_66 : decode cX12_crosses 66 = .ok (.if_icmp .ge 7, 3) := by decide +kernel
theorem dX12_crosses_69 : decode cX12_crosses 69 = .ok (.iconst 1, 1) := by decide +kernel
theorem dX12_crosses_70 : decode cX12_crosses 70 = .ok (.goto 4, 3) := by decide +kernel
theorem dX12_crosses_73 : decode cX12_crosses 73 = .ok (.iconst 0, 1) := by decide +kernel
theorem dX12_crosses_74 : decode cX12_crosses 74 = .ok (.istore 5, 2) := by decide +kernel
theorem dX12_crosses_76 : decode cX12_crosses 76 = .ok (.aload_n 0, 1) := by decide +kernel
theorem dX12_crosses_77 : decode cX12_crosses 77 = .ok (.getfield 128, 3) := by decide +kernel
theorem dX12_crosses_80 : decode cX12_crosses 80 = .ok (.iload 4, 2) := by decide +kernel
theorem dX12_crosses_82 : decode cX12_crosses 82 = .ok (.iaload, 1) := by decide +kernel
theorem dX12_crosses_83 : decode cX12_crosses 83 = .ok (.aload_n 0, 1) := by decide +kernel
theorem dX12_crosses_84 : decode cX12_crosses 84 = .ok (.getfield 128, 3) := by decide +kernel
theorem dX12_crosses_87 : decode cX12_crosses 87 = .ok (.iload_n 3, 1) := by decide +kernel
theorem dX12_crosses_88 : decode cX12_crosses 88 = .ok (.iaload, 1) := by decide +kernel
theorem dX12_crosses_89 : decode cX12_crosses 89 = .ok (.if_icmp .ge 39, 3) := by decide +kernel
theorem dX12_crosses_92 : decode cX12_crosses 92 = .ok (.aload_n 0, 1) := by decide +kernel
theorem dX12_crosses_93 : decode cX12_crosses 93 = .ok (.getfield 128, 3) := by decide +kernel
theorem dX12_crosses_96 : decode cX12_crosses 96 = .ok (.iload_n 3, 1) := by decide +kernel
theorem dX12_crosses_97 : decode cX12_crosses 97 = .ok (.iaload, 1) := by decide +kernel
theorem dX12_crosses_98 : decode cX12_crosses 98 = .ok (.aload_n 0, 1) := by decide +kernel
theorem dX12_crosses_99 : decode cX12_crosses 99 = .ok (.getfield 131, 3) := by decide +kernel
theorem dX12_crosses_102 : decode cX12_crosses 102 = .ok (.iload 4, 2) := by decide +kernel
theorem dX12_crosses_104 : decode cX12_crosses 104 = .ok (.iaload, 1) := by decide +kernel
theorem dX12_crosses_105 : decode cX12_crosses 105 = .ok (.if_icmp .ge 23, 3) := by decide +kernel
theorem dX12_crosses_108 : decode cX12_crosses 108 = .ok (.aload_n 0, 1) := by decide +kernel
theorem dX12_crosses_109 : decode cX12_crosses 109 = .ok (.getfield 131, 3) := by decide +kernel
theorem dX12_crosses_112 : decode cX12_crosses 112 = .ok (.iload 4, 2) := by decide +kernel
theorem dX12_crosses_114 : decode cX12_crosses 114 = .ok (.iaload, 1) := by decide +kernel
theorem dX12_crosses_115 : decode cX12_crosses 115 = .ok (.aload_n 0, 1) := by decide +kernel
theorem dX12_crosses_116 : decode cX12_crosses 116 = .ok (.getfield 131, 3) := by decide +kernel
theorem dX12_crosses_119 : decode cX12_crosses 119 = .ok (.iload_n 3, 1) := by decide +kernel
theorem dX12_crosses_120 : decode cX12_crosses 120 = .ok (.iaload, 1) := by decide +kernel
theorem dX12_crosses_121 : decode cX12_crosses 121 = .ok (.if_icmp .ge 7, 3) := by decide +kernel
theorem dX12_crosses_124 : decode cX12_crosses 124 = .ok (.iconst 1, 1) := by decide +kernel
theorem dX12_crosses_125 : decode cX12_crosses 125 = .ok (.goto 4, 3) := by decide +kernel
theorem dX12_crosses_128 : decode cX12_crosses 128 = .ok (.iconst 0, 1) := by decide +kernel
theorem dX12_crosses_129 : decode cX12_crosses 129 = .ok (.istore 6, 2) := by decide +kernel
theorem dX12_crosses_131 : decode cX12_crosses 131 = .ok (.iload_n 1, 1) := by decide +kernel
theorem dX12_crosses_132 : decode cX12_crosses 132 = .ok (.iload_n 2, 1) := by decide +kernel
theorem dX12_crosses_133 : decode cX12_crosses 133 = .ok (.if_icmp .eq 55, 3) := by decide +kernel
theorem dX12_crosses_136 : decode cX12_crosses 136 = .ok (.aload_n 0, 1) := by decide +kernel
theorem dX12_crosses_137 : decode cX12_crosses 137 = .ok (.getfield 125, 3) := by decide +kernel
theorem dX12_crosses_140 : decode cX12_crosses 140 = .ok (.iload_n 3, 1) := by decide +kernel
theorem dX12_crosses_141 : decode cX12_crosses 141 = .ok (.iaload, 1) := by decide +kernel
theorem dX12_crosses_142 : decode cX12_crosses 142 = .ok (.aload_n 0, 1) := by decide +kernel
theorem dX12_crosses_143 : decode cX12_crosses 143 = .ok (.getfield 125, 3) := by decide +kernel
theorem dX12_crosses_146 : decode cX12_crosses 146 = .ok (.iload 4, 2) := by decide +kernel
theorem dX12_crosses_148 : decode cX12_crosses 148 = .ok (.iaload, 1) := by decide +kernel
theorem dX12_crosses_149 : decode cX12_crosses 149 = .ok (.if_icmp .ne 39, 3) := by decide +kernel
theorem dX12_crosses_152 : decode cX12_crosses 152 = .ok (.aload_n 0, 1) := by decide +kernel
theorem dX12_crosses_153 : decode cX12_crosses 153 = .ok (.getfield 128, 3) := by decide +kernel
theorem dX12_crosses_156 : decode cX12_crosses 156 = .ok (.iload_n 3, 1) := by decide +kernel
theorem dX12_crosses_157 : decode cX12_crosses 157 = .ok (.iaload, 1) := by decide +kernel
theorem dX12_crosses_158 : decode cX12_crosses 158 = .ok (.aload_n 0, 1) := by decide +kernel
theorem dX12_crosses_159 : decode cX12_crosses 159 = .ok (.getfield 131, 3) := by decide +kernel
theorem dX12_crosses_162 : decode cX12_crosses 162 = .ok (.iload 4, 2) := by decide +kernel
theorem dX12_crosses_164 : decode cX12_crosses 164 = .ok (.iaload, 1) := by decide +kernel
theorem dX12_crosses_165 : decode cX12_crosses 165 = .ok (.if_icmp .ge 23, 3) := by decide +kernel
theorem dX12_crosses_168 : decode cX12_crosses 168 = .ok (.aload_n 0, 1) := by decide +kernel
theorem dX12_crosses_169 : decode cX12_crosses 169 = .ok (.getfield 128, 3) := by decide +kernel
theorem dX12_crosses_172 : decode cX12_crosses 172 = .ok (.iload 4, 2) := by decide +kernel
theorem dX12_crosses_174 : decode cX12_crosses 174 = .ok (.iaload, 1) := by decide +kernel
theorem dX12_crosses_175 : decode cX12_crosses 175 = .ok (.aload_n 0, 1) := by decide +kernel
theorem dX12_crosses_176 : decode cX12_crosses 176 = .ok (.getfield 131, 3) := by decide +kernel
theorem dX12_crosses_179 : decode cX12_crosses 179 = .ok (.iload_n 3, 1) := by decide +kernel
theorem dX12_crosses_180 : decode cX12_crosses 180 = .ok (.iaload, 1) := by decide +kernel
theorem dX12_crosses_181 : decode cX12_crosses 181 = .ok (.if_icmp .ge 7, 3) := by decide +kernel
theorem dX12_crosses_184 : decode cX12_crosses 184 = .ok (.iconst 1, 1) := by decide +kernel
theorem dX12_crosses_185 : decode cX12_crosses 185 = .ok (.goto 4, 3) := by decide +kernel
theorem dX12_crosses_188 : decode cX12_crosses 188 = .ok (.iconst 0, 1) := by decide +kernel
theorem dX12_crosses_189 : decode cX12_crosses 189 = .ok (.istore 7, 2) := by decide +kernel
theorem dX12_crosses_191 : decode cX12_crosses 191 = .ok (.iload 5, 2) := by decide +kernel
theorem dX12_crosses_193 : decode cX12_crosses 193 = .ok (.ifCond .ne 13, 3) := by decide +kernel
theorem dX12_crosses_196 : decode cX12_crosses 196 = .ok (.iload 6, 2) := by decide +kernel
theorem dX12_crosses_198 : decode cX12_crosses 198 = .ok (.ifCond .ne 8, 3) := by decide +kernel
theorem dX12_crosses_201 : decode cX12_crosses 201 = .ok (.iload 7, 2) := by decide +kernel
theorem dX12_crosses_203 : decode cX12_crosses 203 = .ok (.ifCond .eq 7, 3) := by decide +kernel
theorem dX12_crosses_206 : decode cX12_crosses 206 = .ok (.iconst 1, 1) := by decide +kernel
theorem dX12_crosses_207 : decode cX12_crosses 207 = .ok (.goto 4, 3) := by decide +kernel
theorem dX12_crosses_210 : decode cX12_crosses 210 = .ok (.iconst 0, 1) := by decide +kernel
theorem dX12_crosses_211 : decode cX12_crosses 211 = .ok (.ireturn, 1) := by decide +kernel
theorem dX12_cross_0 : decode cX12_cross 0 = .ok (.iload_n 1, 1) := by decide +kernel
theorem dX12_cross_1 : decode cX12_cross 1 = .ok (.ifCond .eq 10, 3) := by decide +kernel
theorem dX12_cross_4 : decode cX12_cross 4 = .ok (.iload_n 1, 1) := by decide +kernel
theorem dX12_cross_5 : decode cX12_cross 5 = .ok (.iconst 1, 1) := by decide +kernel
theorem dX12_cross_6 : decode cX12_cross 6 = .ok (.if_icmp .eq 5, 3) := by decide +kernel
theorem dX12_cross_9 : decode cX12_cross 9 = .ok (.iconst (-1), 1) := by decide +kernel
theorem dX12_cross_10 : decode cX12_cross 10 = .ok (.ireturn, 1) := by decide +kernel
theorem dX12_cross_11 : decode cX12_cross 11 = .ok (.iconst 0, 1) := by decide +kernel
theorem dX12_cross_12 : decode cX12_cross 12 = .ok (.istore_n 2, 1) := by decide +kernel
theorem dX12_cross_13 : decode cX12_cross 13 = .ok (.iload_n 2, 1) := by decide +kernel
theorem dX12_cross_14 : decode cX12_cross 14 = .ok (.aload_n 0, 1) := by decide +kernel
theorem dX12_cross_15 : decode cX12_cross 15 = .ok (.getfield 122, 3) := by decide +kernel
theorem dX12_cross_18 : decode cX12_cross 18 = .ok (.aload_n 0, 1) := by decide +kernel
theorem dX12_cross_19 : decode cX12_cross 19 = .ok (.getfield 48, 3) := by decide +kernel
theorem dX12_cross_22 : decode cX12_cross 22 = .ok (.iaload, 1) := by decide +kernel
theorem dX12_cross_23 : decode cX12_cross 23 = .ok (.if_icmp .ge 49, 3) := by decide +kernel
theorem dX12_cross_26 : decode cX12_cross 26 = .ok (.iconst 0, 1) := by decide +kernel
theorem dX12_cross_27 : decode cX12_cross 27 = .ok (.istore_n 3, 1) := by decide +kernel
theorem dX12_cross_28 : decode cX12_cross 28 = .ok (.iload_n 3, 1) := by decide +kernel
theorem dX12_cross_29 : decode cX12_cross 29 = .ok (.aload_n 0, 1) := by decide +kernel
theorem dX12_cross_30 : decode cX12_cross 30 = .ok (.getfield 122, 3) := by decide +kernel
theorem dX12_cross_33 : decode cX12_cross 33 = .ok (.aload_n 0, 1) := by decide +kernel
theorem dX12_cross_34 : decode cX12_cross 34 = .ok (.getfield 48, 3) := by decide +kernel
theorem dX12_cross_37 : decode cX12_cross 37 = .ok (.iaload, 1) := by decide +kernel
theorem dX12_cross_38 : decode cX12_cross 38 = .ok (.if_icmp .ge 28, 3) := by decide +kernel
theorem dX12_cross_41 : decode cX12_cross 41 = .ok (.aload_n 0, 1) := by decide +kernel
theorem dX12_cross_42 : decode cX12_cross 42 = .ok (.iload_n 2, 1) := by decide +kernel
theorem dX12_cross_43 : decode cX12_cross 43 = .ok (.iload_n 3, 1) := by decide +kernel
theorem dX12_cross_44 : decode cX12_cross 44 = .ok (.invokevirtual 606, 3) := by decide +kernel
theorem dX12_cross_47 : decode cX12_cross 47 = .ok (.ifCond .eq 13, 3) := by decide +kernel
theorem dX12_cross_50 : decode cX12_cross 50 = .ok (.iload_n 1, 1) := by decide +kernel
theorem dX12_cross_51 : decode cX12_cross 51 = .ok (.ifCond .ne 7, 3) := by decide +kernel
theorem dX12_cross_54 : decode cX12_cross 54 = .ok (.iload_n 2, 1) := by decide +kernel
theorem dX12_cross_55 : decode cX12_cross 55 = .ok (.goto 4, 3) := by decide +kernel
theorem dX12_cross_58 : decode cX12_cross 58 = .ok (.iload_n 3, 1) := by decide +kernel
theorem dX12_cross_59 : decode cX12_cross 59 = .ok (.ireturn, 1) := by decide +kernel
theorem dX12_cross_60 : decode cX12_cross 60 = .ok (.iinc 3 1, 3) := by decide +kernel
theorem dX12_cross_63 : decode cX12_cross 63 = .ok (.goto (-35), 3) := by decide +kernel
theorem dX12_cross_66 : decode cX12_cross 66 = .ok (.iinc 2 1, 3) := by decide +kernel
theorem dX12_cross_69 : decode cX12_cross 69 = .ok (.goto (-56), 3) := by decide +kernel
theorem dX12_cross_72 : decode cX12_cross 72 = .ok (.iconst (-1), 1) := by decide +kernel
theorem dX12_cross_73 : decode cX12_cross 73 = .ok (.ireturn, 1) := by decide +kernel
theorem dX12_may_0 : decode cX12_may 0 = .ok (.iconst 0, 1) := by decide +kernel
theorem dX12_may_1 : decode cX12_may 1 = .ok (.istore_n 2, 1) := by decide +kernel
theorem dX12_may_2 : decode cX12_may 2 = .ok (.iload_n 2, 1) := by decide +kernel
theorem dX12_may_3 : decode cX12_may 3 = .ok (.iload_n 1, 1) := by decide +kernel
theorem dX12_may_4 : decode cX12_may 4 = .ok (.if_icmp .ge 35, 3) := by decide +kernel
theorem dX12_may_7 : decode cX12_may 7 = .ok (.aload_n 0, 1) := by decide +kernel
theorem dX12_may_8 : decode cX12_may 8 = .ok (.getfield 238, 3) := by decide +kernel
theorem dX12_may_11 : decode cX12_may 11 = .ok (.iload_n 2, 1) := by decide +kernel
theorem dX12_may_12 : decode cX12_may 12 = .ok (.iaload, 1) := by decide +kernel
theorem dX12_may_13 : decode cX12_may 13 = .ok (.aload_n 0, 1) := by decide +kernel
theorem dX12_may_14 : decode cX12_may 14 = .ok (.getfield 238, 3) := by decide +kernel
theorem dX12_may_17 : decode cX12_may 17 = .ok (.iload_n 1, 1) := by decide +kernel
theorem dX12_may_18 : decode cX12_may 18 = .ok (.iaload, 1) := by decide +kernel
theorem dX12_may_19 : decode cX12_may 19 = .ok (.if_icmp .ne 14, 3) := by decide +kernel
theorem dX12_may_22 : decode cX12_may 22 = .ok (.aload_n 0, 1) := by decide +kernel
theorem dX12_may_23 : decode cX12_may 23 = .ok (.iload_n 2, 1) := by decide +kernel
theorem dX12_may_24 : decode cX12_may 24 = .ok (.iload_n 1, 1) := by decide +kernel
theorem dX12_may_25 : decode cX12_may 25 = .ok (.invokevirtual 606, 3) := by decide +kernel
theorem dX12_may_28 : decode cX12_may 28 = .ok (.ifCond .eq 5, 3) := by decide +kernel
theorem dX12_may_31 : decode cX12_may 31 = .ok (.iconst 0, 1) := by decide +kernel
theorem dX12_may_32 : decode cX12_may 32 = .ok (.ireturn, 1) := by decide +kernel
theorem dX12_may_33 : decode cX12_may 33 = .ok (.iinc 2 1, 3) := by decide +kernel
theorem dX12_may_36 : decode cX12_may 36 = .ok (.goto (-34), 3) := by decide +kernel
theorem dX12_may_39 : decode cX12_may 39 = .ok (.iconst 1, 1) := by decide +kernel
theorem dX12_may_40 : decode cX12_may 40 = .ok (.ireturn, 1) := by decide +kernel
theorem dX12_isAhead_0 : decode cX12_isAhead 0 = .ok (.bipush 6, 2) := by decide +kernel
theorem dX12_isAhead_2 : decode cX12_isAhead 2 = .ok (.aload_n 0, 1) := by decide +kernel
theorem dX12_isAhead_3 : decode cX12_isAhead 3 = .ok (.getfield 48, 3) := by decide +kernel
theorem dX12_isAhead_6 : decode cX12_isAhead 6 = .ok (.imul, 1) := by decide +kernel
theorem dX12_isAhead_7 : decode cX12_isAhead 7 = .ok (.iload_n 1, 1) := by decide +kernel
theorem dX12_isAhead_8 : decode cX12_isAhead 8 = .ok (.iadd, 1) := by decide +kernel
theorem dX12_isAhead_9 : decode cX12_isAhead 9 = .ok (.istore_n 3, 1) := by decide +kernel
theorem dX12_isAhead_10 : decode cX12_isAhead 10 = .ok (.bipush 6, 2) := by decide +kernel
theorem dX12_isAhead_12 : decode cX12_isAhead 12 = .ok (.aload_n 0, 1) := by decide +kernel
theorem dX12_isAhead_13 : decode cX12_isAhead 13 = .ok (.getfield 48, 3) := by decide +kernel
theorem dX12_isAhead_16 : decode cX12_isAhead 16 = .ok (.imul, 1) := by decide +kernel
theorem dX12_isAhead_17 : decode cX12_isAhead 17 = .ok (.iload_n 2, 1) := by decide +kernel
theorem dX12_isAhead_18 : decode cX12_isAhead 18 = .ok (.iadd, 1) := by decide +kernel
theorem dX12_isAhead_19 : decode cX12_isAhead 19 = .ok (.istore 4, 2) := by decide +kernel
theorem dX12_isAhead_21 : decode cX12_isAhead 21 = .ok (.aload_n 0, 1) := by decide +kernel
theorem dX12_isAhead_22 : decode cX12_isAhead 22 = .ok (.getfield 128, 3) := by decide +kernel
theorem dX12_isAhead_25 : decode cX12_isAhead 25 = .ok (.iload_n 3, 1) := by decide +kernel
theorem dX12_isAhead_26 : decode cX12_isAhead 26 = .ok (.iaload, 1) := by decide +kernel
theorem dX12_isAhead_27 : decode cX12_isAhead 27 = .ok (.aload_n 0, 1) := by decide +kernel
theorem dX12_isAhead_28 : decode cX12_isAhead 28 = .ok (.getfield 128, 3) := by decide +kernel
theorem dX12_isAhead_31 : decode cX12_isAhead 31 = .ok (.iload 4, 2) := by decide +kernel
theorem dX12_isAhead_33 : decode cX12_isAhead 33 = .ok (.iaload, 1) := by decide +kernel
theorem dX12_isAhead_34 : decode cX12_isAhead 34 = .ok (.if_icmp .eq 25, 3) := by decide +kernel
theorem dX12_isAhead_37 : decode cX12_isAhead 37 = .ok (.aload_n 0, 1) := by decide +kernel
theorem dX12_isAhead_38 : decode cX12_isAhead 38 = .ok (.getfield 128, 3) := by decide +kernel
theorem dX12_isAhead_41 : decode cX12_isAhead 41 = .ok (.iload_n 3, 1) := by decide +kernel
theorem dX12_isAhead_42 : decode cX12_isAhead 42 = .ok (.iaload, 1) := by decide +kernel
theorem dX12_isAhead_43 : decode cX12_isAhead 43 = .ok (.aload_n 0, 1) := by decide +kernel
theorem dX12_isAhead_44 : decode cX12_isAhead 44 = .ok (.getfield 128, 3) := by decide +kernel
theorem dX12_isAhead_47 : decode cX12_isAhead 47 = .ok (.iload 4, 2) := by decide +kernel
theorem dX12_isAhead_49 : decode cX12_isAhead 49 = .ok (.iaload, 1) := by decide +kernel
theorem dX12_isAhead_50 : decode cX12_isAhead 50 = .ok (.if_icmp .ge 7, 3) := by decide +kernel
theorem dX12_isAhead_53 : decode cX12_isAhead 53 = .ok (.iconst 1, 1) := by decide +kernel
theorem dX12_isAhead_54 : decode cX12_isAhead 54 = .ok (.goto 4, 3) := by decide +kernel
theorem dX12_isAhead_57 : decode cX12_isAhead 57 = .ok (.iconst 0, 1) := by decide +kernel
theorem dX12_isAhead_58 : decode cX12_isAhead 58 = .ok (.ireturn, 1) := by decide +kernel
theorem dX12_isAhead_59 : decode cX12_isAhead 59 = .ok (.aload_n 0, 1) := by decide +kernel
theorem dX12_isAhead_60 : decode cX12_isAhead 60 = .ok (.getfield 131, 3) := by decide +kernel
theorem dX12_isAhead_63 : decode cX12_isAhead 63 = .ok (.iload_n 3, 1) := by decide +kernel
theorem dX12_isAhead_64 : decode cX12_isAhead 64 = .ok (.iaload, 1) := by decide +kernel
theorem dX12_isAhead_65 : decode cX12_isAhead 65 = .ok (.aload_n 0, 1) := by decide +kernel
theorem dX12_isAhead_66 : decode cX12_isAhead 66 = .ok (.getfield 131, 3) := by decide +kernel
theorem dX12_isAhead_69 : decode cX12_isAhead 69 = .ok (.iload 4, 2) := by decide +kernel
theorem dX12_isAhead_71 : decode cX12_isAhead 71 = .ok (.iaload, 1) := by decide +kernel
theorem dX12_isAhead_72 : decode cX12_isAhead 72 = .ok (.if_icmp .eq 27, 3) := by decide +kernel
theorem dX12_isAhead_75 : decode cX12_isAhead 75 = .ok (.aload_n 0, 1) := by decide +kernel
theorem dX12_isAhead_76 : decode cX12_isAhead 76 = .ok (.getfield 131, 3) := by decide +kernel
theorem dX12_isAhead_79 : decode cX12_isAhead 79 = .ok (.iload_n 3, 1) := by decide +kernel
theorem dX12_isAhead_80 : decode cX12_isAhead 80 = .ok (.iaload, 1) := by decide +kernel
theorem dX12_isAhead_81 : decode cX12_isAhead 81 = .ok (.aload_n 0, 1) := by decide +kernel
theorem dX12_isAhead_82 : decode cX12_isAhead 82 = .ok (.getfield 131, 3) := by decide +kernel
theorem dX12_isAhead_85 : decode cX12_isAhead 85 = .ok (.iload 4, 2) := by decide +kernel
theorem dX12_isAhead_87 : decode cX12_isAhead 87 = .ok (.iaload, 1) := by decide +kernel
theorem dX12_isAhead_88 : decode cX12_isAhead 88 = .ok (.if_icmp .le 7, 3) := by decide +kernel
theorem dX12_isAhead_91 : decode cX12_isAhead 91 = .ok (.iconst 1, 1) := by decide +kernel
theorem dX12_isAhead_92 : decode cX12_isAhead 92 = .ok (.goto 17, 3) := by decide +kernel
theorem dX12_isAhead_95 : decode cX12_isAhead 95 = .ok (.iconst 0, 1) := by decide +kernel
theorem dX12_isAhead_96 : decode cX12_isAhead 96 = .ok (.goto 13, 3) := by decide +kernel
theorem dX12_isAhead_99 : decode cX12_isAhead 99 = .ok (.iload_n 1, 1) := by decide +kernel
theorem dX12_isAhead_100 : decode cX12_isAhead 100 = .ok (.iload_n 2, 1) := by decide +kernel
theorem dX12_isAhead_101 : decode cX12_isAhead 101 = .ok (.if_icmp .ge 7, 3) := by decide +kernel
theorem dX12_isAhead_104 : decode cX12_isAhead 104 = .ok (.iconst 1, 1) := by decide +kernel
theorem dX12_isAhead_105 : decode cX12_isAhead 105 = .ok (.goto 4, 3) := by decide +kernel
theorem dX12_isAhead_108 : decode cX12_isAhead 108 = .ok (.iconst 0, 1) := by decide +kernel
theorem dX12_isAhead_109 : decode cX12_isAhead 109 = .ok (.ireturn, 1) := by decide +kernel
theorem dX12_order_0 : decode cX12_order 0 = .ok (.iconst 0, 1) := by decide +kernel
theorem dX12_order_1 : decode cX12_order 1 = .ok (.istore_n 2, 1) := by decide +kernel
theorem dX12_order_2 : decode cX12_order 2 = .ok (.iload_n 2, 1) := by decide +kernel
theorem dX12_order_3 : decode cX12_order 3 = .ok (.aload_n 0, 1) := by decide +kernel
theorem dX12_order_4 : decode cX12_order 4 = .ok (.getfield 122, 3) := by decide +kernel
theorem dX12_order_7 : decode cX12_order 7 = .ok (.aload_n 0, 1) := by decide +kernel
theorem dX12_order_8 : decode cX12_order 8 = .ok (.getfield 48, 3) := by decide +kernel
theorem dX12_order_11 : decode cX12_order 11 = .ok (.iaload, 1) := by decide +kernel
theorem dX12_order_12 : decode cX12_order 12 = .ok (.if_icmp .ge 59, 3) := by decide +kernel
theorem dX12_order_15 : decode cX12_order 15 = .ok (.iconst 0, 1) := by decide +kernel
theorem dX12_order_16 : decode cX12_order 16 = .ok (.istore_n 3, 1) := by decide +kernel
theorem dX12_order_17 : decode cX12_order 17 = .ok (.iconst 0, 1) := by decide +kernel
theorem dX12_order_18 : decode cX12_order 18 = .ok (.istore 4, 2) := by decide +kernel
theorem dX12_order_20 : decode cX12_order 20 = .ok (.iload 4, 2) := by decide +kernel
theorem dX12_order_22 : decode cX12_order 22 = .ok (.aload_n 0, 1) := by decide +kernel
theorem dX12_order_23 : decode cX12_order 23 = .ok (.getfield 122, 3) := by decide +kernel
theorem dX12_order_26 : decode cX12_order 26 = .ok (.aload_n 0, 1) := by decide +kernel
theorem dX12_order_27 : decode cX12_order 27 = .ok (.getfield 48, 3) := by decide +kernel
theorem dX12_order_30 : decode cX12_order 30 = .ok (.iaload, 1) := by decide +kernel
theorem dX12_order_31 : decode cX12_order 31 = .ok (.if_icmp .ge 27, 3) := by decide +kernel
theorem dX12_order_34 : decode cX12_order 34 = .ok (.iload_n 3, 1) := by decide +kernel
theorem dX12_order_35 : decode cX12_order 35 = .ok (.aload_n 0, 1) := by decide +kernel
theorem dX12_order_36 : decode cX12_order 36 = .ok (.iload 4, 2) := by decide +kernel
theorem dX12_order_38 : decode cX12_order 38 = .ok (.iload_n 2, 1) := by decide +kernel
theorem dX12_order_39 : decode cX12_order 39 = .ok (.invokevirtual 615, 3) := by decide +kernel
theorem dX12_order_42 : decode cX12_order 42 = .ok (.ifCond .eq 7, 3) := by decide +kernel
theorem dX12_order_45 : decode cX12_order 45 = .ok (.iconst 1, 1) := by decide +kernel
theorem dX12_order_46 : decode cX12_order 46 = .ok (.goto 4, 3) := by decide +kernel
theorem dX12_order_49 : decode cX12_order 49 = .ok (.iconst 0, 1) := by decide +kernel
theorem dX12_order_50 : decode cX12_order 50 = .ok (.iadd, 1) := by decide +kernel
theorem dX12_order_51 : decode cX12_order 51 = .ok (.istore_n 3, 1) := by decide +kernel
theorem dX12_order_52 : decode cX12_order 52 = .ok (.iinc 4 1, 3) := by decide +kernel
theorem dX12_order_55 : decode cX12_order 55 = .ok (.goto (-35), 3) := by decide +kernel
theorem dX12_order_58 : decode cX12_order 58 = .ok (.iload_n 3, 1) := by decide +kernel
theorem dX12_order_59 : decode cX12_order 59 = .ok (.iload_n 1, 1) := by decide +kernel
theorem dX12_order_60 : decode cX12_order 60 = .ok (.if_icmp .ne 5, 3) := by decide +kernel
theorem dX12_order_63 : decode cX12_order 63 = .ok (.iload_n 2, 1) := by decide +kernel
theorem dX12_order_64 : decode cX12_order 64 = .ok (.ireturn, 1) := by decide +kernel
theorem dX12_order_65 : decode cX12_order 65 = .ok (.iinc 2 1, 3) := by decide +kernel
theorem dX12_order_68 : decode cX12_order 68 = .ok (.goto (-66), 3) := by decide +kernel
theorem dX12_order_71 : decode cX12_order 71 = .ok (.iconst (-1), 1) := by decide +kernel
theorem dX12_order_72 : decode cX12_order 72 = .ok (.ireturn, 1) := by decide +kernel
