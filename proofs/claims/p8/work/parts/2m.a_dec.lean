theorem dX9_hasDoorAt_0 : decode cX9_hasDoorAt 0 = .ok (.iconst 0, 1) := by decide +kernel
theorem dX9_hasDoorAt_1 : decode cX9_hasDoorAt 1 = .ok (.istore_n 2, 1) := by decide +kernel
theorem dX9_hasDoorAt_2 : decode cX9_hasDoorAt 2 = .ok (.iload_n 2, 1) := by decide +kernel
theorem dX9_hasDoorAt_3 : decode cX9_hasDoorAt 3 = .ok (.aload_n 0, 1) := by decide +kernel
theorem dX9_hasDoorAt_4 : decode cX9_hasDoorAt 4 = .ok (.getfield 9, 3) := by decide +kernel
theorem dX9_hasDoorAt_7 : decode cX9_hasDoorAt 7 = .ok (.iconst 1, 1) := by decide +kernel
theorem dX9_hasDoorAt_8 : decode cX9_hasDoorAt 8 = .ok (.iaload, 1) := by decide +kernel
theorem dX9_hasDoorAt_9 : decode cX9_hasDoorAt 9 = .ok (.if_icmp .ge 28, 3) := by decide +kernel
theorem dX9_hasDoorAt_12 : decode cX9_hasDoorAt 12 = .ok (.aload_n 0, 1) := by decide +kernel
theorem dX9_hasDoorAt_13 : decode cX9_hasDoorAt 13 = .ok (.iload_n 2, 1) := by decide +kernel
theorem dX9_hasDoorAt_14 : decode cX9_hasDoorAt 14 = .ok (.invokevirtual 93, 3) := by decide +kernel
theorem dX9_hasDoorAt_17 : decode cX9_hasDoorAt 17 = .ok (.ifCond .ne 14, 3) := by decide +kernel
theorem dX9_hasDoorAt_20 : decode cX9_hasDoorAt 20 = .ok (.aload_n 0, 1) := by decide +kernel
theorem dX9_hasDoorAt_21 : decode cX9_hasDoorAt 21 = .ok (.iload_n 2, 1) := by decide +kernel
theorem dX9_hasDoorAt_22 : decode cX9_hasDoorAt 22 = .ok (.iload_n 1, 1) := by decide +kernel
theorem dX9_hasDoorAt_23 : decode cX9_hasDoorAt 23 = .ok (.invokevirtual 97, 3) := by decide +kernel
theorem dX9_hasDoorAt_26 : decode cX9_hasDoorAt 26 = .ok (.ifCond .eq 5, 3) := by decide +kernel
theorem dX9_hasDoorAt_29 : decode cX9_hasDoorAt 29 = .ok (.iconst 1, 1) := by decide +kernel
theorem dX9_hasDoorAt_30 : decode cX9_hasDoorAt 30 = .ok (.ireturn, 1) := by decide +kernel
theorem dX9_hasDoorAt_31 : decode cX9_hasDoorAt 31 = .ok (.iinc 2 1, 3) := by decide +kernel
theorem dX9_hasDoorAt_34 : decode cX9_hasDoorAt 34 = .ok (.goto (-32), 3) := by decide +kernel
theorem dX9_hasDoorAt_37 : decode cX9_hasDoorAt 37 = .ok (.iconst 0, 1) := by decide +kernel
theorem dX9_hasDoorAt_38 : decode cX9_hasDoorAt 38 = .ok (.ireturn, 1) := by decide +kernel
theorem dX9_shutMask_0 : decode cX9_shutMask 0 = .ok (.aload_n 0, 1) := by decide +kernel
theorem dX9_shutMask_1 : decode cX9_shutMask 1 = .ok (.getfield 67, 3) := by decide +kernel
theorem dX9_shutMask_4 : decode cX9_shutMask 4 = .ok (.istore_n 1, 1) := by decide +kernel
theorem dX9_shutMask_5 : decode cX9_shutMask 5 = .ok (.iconst 0, 1) := by decide +kernel
theorem dX9_shutMask_6 : decode cX9_shutMask 6 = .ok (.istore_n 2, 1) := by decide +kernel
theorem dX9_shutMask_7 : decode cX9_shutMask 7 = .ok (.iload_n 2, 1) := by decide +kernel
theorem dX9_shutMask_8 : decode cX9_shutMask 8 = .ok (.aload_n 0, 1) := by decide +kernel
theorem dX9_shutMask_9 : decode cX9_shutMask 9 = .ok (.getfield 9, 3) := by decide +kernel
theorem dX9_shutMask_12 : decode cX9_shutMask 12 = .ok (.iconst 2, 1) := by decide +kernel
theorem dX9_shutMask_13 : decode cX9_shutMask 13 = .ok (.iaload, 1) := by decide +kernel
theorem dX9_shutMask_14 : decode cX9_shutMask 14 = .ok (.if_icmp .ge 20, 3) := by decide +kernel
theorem dX9_shutMask_17 : decode cX9_shutMask 17 = .ok (.iload_n 1, 1) := by decide +kernel
theorem dX9_shutMask_18 : decode cX9_shutMask 18 = .ok (.aload_n 0, 1) := by decide +kernel
theorem dX9_shutMask_19 : decode cX9_shutMask 19 = .ok (.getfield 63, 3) := by decide +kernel
theorem dX9_shutMask_22 : decode cX9_shutMask 22 = .ok (.iload_n 2, 1) := by decide +kernel
theorem dX9_shutMask_23 : decode cX9_shutMask 23 = .ok (.invokevirtual 100, 3) := by decide +kernel
theorem dX9_shutMask_26 : decode cX9_shutMask 26 = .ok (.ior, 1) := by decide +kernel
theorem dX9_shutMask_27 : decode cX9_shutMask 27 = .ok (.istore_n 1, 1) := by decide +kernel
theorem dX9_shutMask_28 : decode cX9_shutMask 28 = .ok (.iinc 2 1, 3) := by decide +kernel
theorem dX9_shutMask_31 : decode cX9_shutMask 31 = .ok (.goto (-24), 3) := by decide +kernel
theorem dX9_shutMask_34 : decode cX9_shutMask 34 = .ok (.iload_n 1, 1) := by decide +kernel
theorem dX9_shutMask_35 : decode cX9_shutMask 35 = .ok (.ireturn, 1) := by decide +kernel
theorem dX9_deadMask_0 : decode cX9_deadMask 0 = .ok (.aload_n 0, 1) := by decide +kernel
theorem dX9_deadMask_1 : decode cX9_deadMask 1 = .ok (.getfield 67, 3) := by decide +kernel
theorem dX9_deadMask_4 : decode cX9_deadMask 4 = .ok (.istore_n 1, 1) := by decide +kernel
theorem dX9_deadMask_5 : decode cX9_deadMask 5 = .ok (.iconst 0, 1) := by decide +kernel
theorem dX9_deadMask_6 : decode cX9_deadMask 6 = .ok (.istore_n 2, 1) := by decide +kernel
theorem dX9_deadMask_7 : decode cX9_deadMask 7 = .ok (.iload_n 2, 1) := by decide +kernel
theorem dX9_deadMask_8 : decode cX9_deadMask 8 = .ok (.aload_n 0, 1) := by decide +kernel
theorem dX9_deadMask_9 : decode cX9_deadMask 9 = .ok (.getfield 9, 3) := by decide +kernel
theorem dX9_deadMask_12 : decode cX9_deadMask 12 = .ok (.iconst 2, 1) := by decide +kernel
theorem dX9_deadMask_13 : decode cX9_deadMask 13 = .ok (.iaload, 1) := by decide +kernel
theorem dX9_deadMask_14 : decode cX9_deadMask 14 = .ok (.if_icmp .ge 34, 3) := by decide +kernel
theorem dX9_deadMask_17 : decode cX9_deadMask 17 = .ok (.aload_n 0, 1) := by decide +kernel
theorem dX9_deadMask_18 : decode cX9_deadMask 18 = .ok (.getfield 63, 3) := by decide +kernel
theorem dX9_deadMask_21 : decode cX9_deadMask 21 = .ok (.getfield 84, 3) := by decide +kernel
theorem dX9_deadMask_24 : decode cX9_deadMask 24 = .ok (.iload_n 2, 1) := by decide +kernel
theorem dX9_deadMask_25 : decode cX9_deadMask 25 = .ok (.iaload, 1) := by decide +kernel
theorem dX9_deadMask_26 : decode cX9_deadMask 26 = .ok (.bipush 40, 2) := by decide +kernel
theorem dX9_deadMask_28 : decode cX9_deadMask 28 = .ok (.if_icmp .ne 14, 3) := by decide +kernel
theorem dX9_deadMask_31 : decode cX9_deadMask 31 = .ok (.iload_n 1, 1) := by decide +kernel
theorem dX9_deadMask_32 : decode cX9_deadMask 32 = .ok (.aload_n 0, 1) := by decide +kernel
theorem dX9_deadMask_33 : decode cX9_deadMask 33 = .ok (.getfield 63, 3) := by decide +kernel
theorem dX9_deadMask_36 : decode cX9_deadMask 36 = .ok (.iload_n 2, 1) := by decide +kernel
theorem dX9_deadMask_37 : decode cX9_deadMask 37 = .ok (.invokevirtual 100, 3) := by decide +kernel
theorem dX9_deadMask_40 : decode cX9_deadMask 40 = .ok (.ior, 1) := by decide +kernel
theorem dX9_deadMask_41 : decode cX9_deadMask 41 = .ok (.istore_n 1, 1) := by decide +kernel
theorem dX9_deadMask_42 : decode cX9_deadMask 42 = .ok (.iinc 2 1, 3) := by decide +kernel
theorem dX9_deadMask_45 : decode cX9_deadMask 45 = .ok (.goto (-38), 3) := by decide +kernel
theorem dX9_deadMask_48 : decode cX9_deadMask 48 = .ok (.iload_n 1, 1) := by decide +kernel
theorem dX9_deadMask_49 : decode cX9_deadMask 49 = .ok (.ireturn, 1) := by decide +kernel
theorem dX9_isShut_0 : decode cX9_isShut 0 = .ok (.aload_n 0, 1) := by decide +kernel
theorem dX9_isShut_1 : decode cX9_isShut 1 = .ok (.invokevirtual 104, 3) := by decide +kernel
theorem dX9_isShut_4 : decode cX9_isShut 4 = .ok (.iload_n 1, 1) := by decide +kernel
theorem dX9_isShut_5 : decode cX9_isShut 5 = .ok (.ishr, 1) := by decide +kernel
theorem dX9_isShut_6 : decode cX9_isShut 6 = .ok (.iconst 1, 1) := by decide +kernel
theorem dX9_isShut_7 : decode cX9_isShut 7 = .ok (.iand, 1) := by decide +kernel
theorem dX9_isShut_8 : decode cX9_isShut 8 = .ok (.ifCond .eq 7, 3) := by decide +kernel
theorem dX9_isShut_11 : decode cX9_isShut 11 = .ok (.iconst 1, 1) := by decide +kernel
theorem dX9_isShut_12 : decode cX9_isShut 12 = .ok (.goto 4, 3) := by decide +kernel
theorem dX9_isShut_15 : decode cX9_isShut 15 = .ok (.iconst 0, 1) := by decide +kernel
theorem dX9_isShut_16 : decode cX9_isShut 16 = .ok (.ireturn, 1) := by decide +kernel
theorem dX9_rowsWith_0 : decode cX9_rowsWith 0 = .ok (.iconst 0, 1) := by decide +kernel
theorem dX9_rowsWith_1 : decode cX9_rowsWith 1 = .ok (.istore_n 2, 1) := by decide +kernel
theorem dX9_rowsWith_2 : decode cX9_rowsWith 2 = .ok (.iconst 0, 1) := by decide +kernel
theorem dX9_rowsWith_3 : decode cX9_rowsWith 3 = .ok (.istore_n 3, 1) := by decide +kernel
theorem dX9_rowsWith_4 : decode cX9_rowsWith 4 = .ok (.iload_n 3, 1) := by decide +kernel
theorem dX9_rowsWith_5 : decode cX9_rowsWith 5 = .ok (.aload_n 0, 1) := by decide +kernel
theorem dX9_rowsWith_6 : decode cX9_rowsWith 6 = .ok (.getfield 9, 3) := by decide +kernel
theorem dX9_rowsWith_9 : decode cX9_rowsWith 9 = .ok (.iconst 2, 1) := by decide +kernel
theorem dX9_rowsWith_10 : decode cX9_rowsWith 10 = .ok (.iaload, 1) := by decide +kernel
theorem dX9_rowsWith_11 : decode cX9_rowsWith 11 = .ok (.if_icmp .ge 25, 3) := by decide +kernel
theorem dX9_rowsWith_14 : decode cX9_rowsWith 14 = .ok (.aload_n 0, 1) := by decide +kernel
theorem dX9_rowsWith_15 : decode cX9_rowsWith 15 = .ok (.getfield 63, 3) := by decide +kernel
theorem dX9_rowsWith_18 : decode cX9_rowsWith 18 = .ok (.iload_n 3, 1) := by decide +kernel
theorem dX9_rowsWith_19 : decode cX9_rowsWith 19 = .ok (.iload_n 1, 1) := by decide +kernel
theorem dX9_rowsWith_20 : decode cX9_rowsWith 20 = .ok (.invokevirtual 108, 3) := by decide +kernel
theorem dX9_rowsWith_23 : decode cX9_rowsWith 23 = .ok (.iconst (-1), 1) := by decide +kernel
theorem dX9_rowsWith_24 : decode cX9_rowsWith 24 = .ok (.if_icmp .eq 6, 3) := by decide +kernel
theorem dX9_rowsWith_27 : decode cX9_rowsWith 27 = .ok (.iinc 2 1, 3) := by decide +kernel
theorem dX9_rowsWith_30 : decode cX9_rowsWith 30 = .ok (.iinc 3 1, 3) := by decide +kernel
theorem dX9_rowsWith_33 : decode cX9_rowsWith 33 = .ok (.goto (-29), 3) := by decide +kernel
theorem dX9_rowsWith_36 : decode cX9_rowsWith 36 = .ok (.iload_n 2, 1) := by decide +kernel
theorem dX9_rowsWith_37 : decode cX9_rowsWith 37 = .ok (.ireturn, 1) := by decide +kernel
theorem dX9_holdsKey_0 : decode cX9_holdsKey 0 = .ok (.aload_n 0, 1) := by decide +kernel
theorem dX9_holdsKey_1 : decode cX9_holdsKey 1 = .ok (.iconst 3, 1) := by decide +kernel
theorem dX9_holdsKey_2 : decode cX9_holdsKey 2 = .ok (.iload_n 1, 1) := by decide +kernel
theorem dX9_holdsKey_3 : decode cX9_holdsKey 3 = .ok (.invokevirtual 90, 3) := by decide +kernel
theorem dX9_holdsKey_6 : decode cX9_holdsKey 6 = .ok (.ifCond .eq 29, 3) := by decide +kernel
theorem dX9_holdsKey_9 : decode cX9_holdsKey 9 = .ok (.aload_n 0, 1) := by decide +kernel
theorem dX9_holdsKey_10 : decode cX9_holdsKey 10 = .ok (.iconst 2, 1) := by decide +kernel
theorem dX9_holdsKey_11 : decode cX9_holdsKey 11 = .ok (.iload_n 2, 1) := by decide +kernel
theorem dX9_holdsKey_12 : decode cX9_holdsKey 12 = .ok (.invokevirtual 90, 3) := by decide +kernel
theorem dX9_holdsKey_15 : decode cX9_holdsKey 15 = .ok (.ifCond .eq 20, 3) := by decide +kernel
theorem dX9_holdsKey_18 : decode cX9_holdsKey 18 = .ok (.aload_n 0, 1) := by decide +kernel
theorem dX9_holdsKey_19 : decode cX9_holdsKey 19 = .ok (.getfield 63, 3) := by decide +kernel
theorem dX9_holdsKey_22 : decode cX9_holdsKey 22 = .ok (.getfield 84, 3) := by decide +kernel
theorem dX9_holdsKey_25 : decode cX9_holdsKey 25 = .ok (.iload_n 2, 1) := by decide +kernel
theorem dX9_holdsKey_26 : decode cX9_holdsKey 26 = .ok (.iaload, 1) := by decide +kernel
theorem dX9_holdsKey_27 : decode cX9_holdsKey 27 = .ok (.iload_n 1, 1) := by decide +kernel
theorem dX9_holdsKey_28 : decode cX9_holdsKey 28 = .ok (.if_icmp .ne 7, 3) := by decide +kernel
theorem dX9_holdsKey_31 : decode cX9_holdsKey 31 = .ok (.iconst 1, 1) := by decide +kernel
theorem dX9_holdsKey_32 : decode cX9_holdsKey 32 = .ok (.goto 4, 3) := by decide +kernel
theorem dX9_holdsKey_35 : decode cX9_holdsKey 35 = .ok (.iconst 0, 1) := by decide +kernel
theorem dX9_holdsKey_36 : decode cX9_holdsKey 36 = .ok (.ireturn, 1) := by decide +kernel
theorem dX9_isBarred_0 : decode cX9_isBarred 0 = .ok (.iconst 0, 1) := by decide +kernel
theorem dX9_isBarred_1 : decode cX9_isBarred 1 = .ok (.istore 6, 2) := by decide +kernel
theorem dX9_isBarred_3 : decode cX9_isBarred 3 = .ok (.iload 6, 2) := by decide +kernel
theorem dX9_isBarred_5 : decode cX9_isBarred 5 = .ok (.aload_n 0, 1) := by decide +kernel
theorem dX9_isBarred_6 : decode cX9_isBarred 6 = .ok (.getfield 9, 3) := by decide +kernel
theorem dX9_isBarred_9 : decode cX9_isBarred 9 = .ok (.bipush 7, 2) := by decide +kernel
theorem dX9_isBarred_11 : decode cX9_isBarred 11 = .ok (.iaload, 1) := by decide +kernel
theorem dX9_isBarred_12 : decode cX9_isBarred 12 = .ok (.if_icmp .ge 52, 3) := by decide +kernel
theorem dX9_isBarred_15 : decode cX9_isBarred 15 = .ok (.aload_n 0, 1) := by decide +kernel
theorem dX9_isBarred_16 : decode cX9_isBarred 16 = .ok (.getfield 44, 3) := by decide +kernel
theorem dX9_isBarred_19 : decode cX9_isBarred 19 = .ok (.iload 6, 2) := by decide +kernel
theorem dX9_isBarred_21 : decode cX9_isBarred 21 = .ok (.iaload, 1) := by decide +kernel
theorem dX9_isBarred_22 : decode cX9_isBarred 22 = .ok (.iload_n 1, 1) := by decide +kernel
theorem dX9_isBarred_23 : decode cX9_isBarred 23 = .ok (.if_icmp .ne 35, 3) := by decide +kernel
theorem dX9_isBarred_26 : decode cX9_isBarred 26 = .ok (.aload_n 0, 1) := by decide +kernel
theorem dX9_isBarred_27 : decode cX9_isBarred 27 = .ok (.getfield 56, 3) := by decide +kernel
theorem dX9_isBarred_30 : decode cX9_isBarred 30 = .ok (.aload_n 0, 1) := by decide +kernel
theorem dX9_isBarred_31 : decode cX9_isBarred 31 = .ok (.getfield 47, 3) := by decide +kernel
theorem dX9_isBarred_34 : decode cX9_isBarred 34 = .ok (.iload 6, 2) := by decide +kernel
theorem dX9_isBarred_36 : decode cX9_isBarred 36 = .ok (.iaload, 1) := by decide +kernel
theorem dX9_isBarred_37 : decode cX9_isBarred 37 = .ok (.aload_n 0, 1) := by decide +kernel
theorem dX9_isBarred_38 : decode cX9_isBarred 38 = .ok (.getfield 50, 3) := by decide +kernel
theorem dX9_isBarred_41 : decode cX9_isBarred 41 = .ok (.iload 6, 2) := by decide +kernel
theorem dX9_isBarred_43 : decode cX9_isBarred 43 = .ok (.iaload, 1) := by decide +kernel
theorem dX9_isBarred_44 : decode cX9_isBarred 44 = .ok (.iload_n 2, 1) := by decide +kernel
theorem dX9_isBarred_45 : decode cX9_isBarred 45 = .ok (.iload_n 3, 1) := by decide +kernel
theorem dX9_isBarred_46 : decode cX9_isBarred 46 = .ok (.iload 4, 2) := by decide +kernel
theorem dX9_isBarred_48 : decode cX9_isBarred 48 = .ok (.iload 5, 2) := by decide +kernel
theorem dX9_isBarred_50 : decode cX9_isBarred 50 = .ok (.invokevirtual 112, 3) := by decide +kernel
theorem dX9_isBarred_53 : decode cX9_isBarred 53 = .ok (.ifCond .eq 5, 3) := by decide +kernel
theorem dX9_isBarred_56 : decode cX9_isBarred 56 = .ok (.iconst 1, 1) := by decide +kernel
theorem dX9_isBarred_57 : decode cX9_isBarred 57 = .ok (.ireturn, 1) := by decide +kernel
theorem dX9_isBarred_58 : decode cX9_isBarred 58 = .ok (.iinc 6 1, 3) := by decide +kernel
theorem dX9_isBarred_61 : decode cX9_isBarred 61 = .ok (.goto (-58), 3) := by decide +kernel
theorem dX9_isBarred_64 : decode cX9_isBarred 64 = .ok (.iconst 0, 1) := by decide +kernel
theorem dX9_isBarred_65 : decode cX9_isBarred 65 = .ok (.ireturn, 1) := by decide +kernel
theorem dX9_goThrough_0 : decode cX9_goThrough 0 = .ok (.aload_n 0, 1) := by decide +kernel
theorem dX9_goThrough_1 : decode cX9_goThrough 1 = .ok (.iconst 3, 1) := by decide +kernel
theorem dX9_goThrough_2 : decode cX9_goThrough 2 = .ok (.iload_n 1, 1) := by decide +kernel
theorem dX9_goThrough_3 : decode cX9_goThrough 3 = .ok (.invokevirtual 90, 3) := by decide +kernel
theorem dX9_goThrough_6 : decode cX9_goThrough 6 = .ok (.ifCond .eq 20, 3) := by decide +kernel
theorem dX9_goThrough_9 : decode cX9_goThrough 9 = .ok (.aload_n 0, 1) := by decide +kernel
theorem dX9_goThrough_10 : decode cX9_goThrough 10 = .ok (.iconst 1, 1) := by decide +kernel
theorem dX9_goThrough_11 : decode cX9_goThrough 11 = .ok (.iload_n 2, 1) := by decide +kernel
theorem dX9_goThrough_12 : decode cX9_goThrough 12 = .ok (.invokevirtual 90, 3) := by decide +kernel
theorem dX9_goThrough_15 : decode cX9_goThrough 15 = .ok (.ifCond .eq 11, 3) := by decide +kernel
theorem dX9_goThrough_18 : decode cX9_goThrough 18 = .ok (.aload_n 0, 1) := by decide +kernel
theorem dX9_goThrough_19 : decode cX9_goThrough 19 = .ok (.iload_n 2, 1) := by decide +kernel
theorem dX9_goThrough_20 : decode cX9_goThrough 20 = .ok (.invokevirtual 93, 3) := by decide +kernel
theorem dX9_goThrough_23 : decode cX9_goThrough 23 = .ok (.ifCond .eq 5, 3) := by decide +kernel
theorem dX9_goThrough_26 : decode cX9_goThrough 26 = .ok (.iconst (-1), 1) := by decide +kernel
theorem dX9_goThrough_27 : decode cX9_goThrough 27 = .ok (.ireturn, 1) := by decide +kernel
theorem dX9_goThrough_28 : decode cX9_goThrough 28 = .ok (.aload_n 0, 1) := by decide +kernel
theorem dX9_goThrough_29 : decode cX9_goThrough 29 = .ok (.getfield 63, 3) := by decide +kernel
theorem dX9_goThrough_32 : decode cX9_goThrough 32 = .ok (.getfield 87, 3) := by decide +kernel
theorem dX9_goThrough_35 : decode cX9_goThrough 35 = .ok (.iload_n 1, 1) := by decide +kernel
theorem dX9_goThrough_36 : decode cX9_goThrough 36 = .ok (.iaload, 1) := by decide +kernel
theorem dX9_goThrough_37 : decode cX9_goThrough 37 = .ok (.istore_n 3, 1) := by decide +kernel
theorem dX9_goThrough_38 : decode cX9_goThrough 38 = .ok (.aload_n 0, 1) := by decide +kernel
theorem dX9_goThrough_39 : decode cX9_goThrough 39 = .ok (.invokevirtual 104, 3) := by decide +kernel
theorem dX9_goThrough_42 : decode cX9_goThrough 42 = .ok (.istore 4, 2) := by decide +kernel
theorem dX9_goThrough_44 : decode cX9_goThrough 44 = .ok (.aload_n 0, 1) := by decide +kernel
theorem dX9_goThrough_45 : decode cX9_goThrough 45 = .ok (.iload_n 2, 1) := by decide +kernel
theorem dX9_goThrough_46 : decode cX9_goThrough 46 = .ok (.iload_n 3, 1) := by decide +kernel
theorem dX9_goThrough_47 : decode cX9_goThrough 47 = .ok (.invokevirtual 97, 3) := by decide +kernel
theorem dX9_goThrough_50 : decode cX9_goThrough 50 = .ok (.ifCond .eq 12, 3) := by decide +kernel
theorem dX9_goThrough_53 : decode cX9_goThrough 53 = .ok (.iload 4, 2) := by decide +kernel
theorem dX9_goThrough_55 : decode cX9_goThrough 55 = .ok (.iload_n 2, 1) := by decide +kernel
theorem dX9_goThrough_56 : decode cX9_goThrough 56 = .ok (.ishr, 1) := by decide +kernel
theorem dX9_goThrough_57 : decode cX9_goThrough 57 = .ok (.iconst 1, 1) := by decide +kernel
theorem dX9_goThrough_58 : decode cX9_goThrough 58 = .ok (.iand, 1) := by decide +kernel
theorem dX9_goThrough_59 : decode cX9_goThrough 59 = .ok (.ifCond .eq 5, 3) := by decide +kernel
theorem dX9_goThrough_62 : decode cX9_goThrough 62 = .ok (.iconst (-1), 1) := by decide +kernel
theorem dX9_goThrough_63 : decode cX9_goThrough 63 = .ok (.ireturn, 1) := by decide +kernel
theorem dX9_goThrough_64 : decode cX9_goThrough 64 = .ok (.aload_n 0, 1) := by decide +kernel
theorem dX9_goThrough_65 : decode cX9_goThrough 65 = .ok (.iload_n 2, 1) := by decide +kernel
theorem dX9_goThrough_66 : decode cX9_goThrough 66 = .ok (.iload_n 1, 1) := by decide +kernel
theorem dX9_goThrough_67 : decode cX9_goThrough 67 = .ok (.iload_n 3, 1) := by decide +kernel
theorem dX9_goThrough_68 : decode cX9_goThrough 68 = .ok (.aload_n 0, 1) := by decide +kernel
theorem dX9_goThrough_69 : decode cX9_goThrough 69 = .ok (.iload_n 1, 1) := by decide +kernel
theorem dX9_goThrough_70 : decode cX9_goThrough 70 = .ok (.invokevirtual 116, 3) := by decide +kernel
theorem dX9_goThrough_73 : decode cX9_goThrough 73 = .ok (.invokestatic 119, 3) := by decide +kernel
theorem dX9_goThrough_76 : decode cX9_goThrough 76 = .ok (.iload 4, 2) := by decide +kernel
theorem dX9_goThrough_78 : decode cX9_goThrough 78 = .ok (.invokestatic 119, 3) := by decide +kernel
theorem dX9_goThrough_81 : decode cX9_goThrough 81 = .ok (.invokevirtual 124, 3) := by decide +kernel
theorem dX9_goThrough_84 : decode cX9_goThrough 84 = .ok (.ifCond .eq 5, 3) := by decide +kernel
theorem dX9_goThrough_87 : decode cX9_goThrough 87 = .ok (.iconst (-1), 1) := by decide +kernel
theorem dX9_goThrough_88 : decode cX9_goThrough 88 = .ok (.ireturn, 1) := by decide +kernel
theorem dX9_goThrough_89 : decode cX9_goThrough 89 = .ok (.aload_n 0, 1) := by decide +kernel
theorem dX9_goThrough_90 : decode cX9_goThrough 90 = .ok (.getfield 63, 3) := by decide +kernel
theorem dX9_goThrough_93 : decode cX9_goThrough 93 = .ok (.getfield 87, 3) := by decide +kernel
theorem dX9_goThrough_96 : decode cX9_goThrough 96 = .ok (.iload_n 1, 1) := by decide +kernel
theorem dX9_goThrough_97 : decode cX9_goThrough 97 = .ok (.aload_n 0, 1) := by decide +kernel
theorem dX9_goThrough_98 : decode cX9_goThrough 98 = .ok (.iload_n 2, 1) := by decide +kernel
theorem dX9_goThrough_99 : decode cX9_goThrough 99 = .ok (.iload_n 3, 1) := by decide +kernel
theorem dX9_goThrough_100 : decode cX9_goThrough 100 = .ok (.invokevirtual 128, 3) := by decide +kernel
theorem dX9_goThrough_103 : decode cX9_goThrough 103 = .ok (.iastore, 1) := by decide +kernel
theorem dX9_goThrough_104 : decode cX9_goThrough 104 = .ok (.aload_n 0, 1) := by decide +kernel
theorem dX9_goThrough_105 : decode cX9_goThrough 105 = .ok (.getfield 63, 3) := by decide +kernel
theorem dX9_goThrough_108 : decode cX9_goThrough 108 = .ok (.getfield 87, 3) := by decide +kernel
theorem dX9_goThrough_111 : decode cX9_goThrough 111 = .ok (.iload_n 1, 1) := by decide +kernel
theorem dX9_goThrough_112 : decode cX9_goThrough 112 = .ok (.iaload, 1) := by decide +kernel
theorem dX9_goThrough_113 : decode cX9_goThrough 113 = .ok (.ireturn, 1) := by decide +kernel
theorem dX9_openWith_0 : decode cX9_openWith 0 = .ok (.aload_n 0, 1) := by decide +kernel
theorem dX9_openWith_1 : decode cX9_openWith 1 = .ok (.iload_n 1, 1) := by decide +kernel
theorem dX9_openWith_2 : decode cX9_openWith 2 = .ok (.iload_n 2, 1) := by decide +kernel
theorem dX9_openWith_3 : decode cX9_openWith 3 = .ok (.invokevirtual 131, 3) := by decide +kernel
theorem dX9_openWith_6 : decode cX9_openWith 6 = .ok (.ifCond .ne 5, 3) := by decide +kernel
theorem dX9_openWith_9 : decode cX9_openWith 9 = .ok (.iconst (-1), 1) := by decide +kernel
theorem dX9_openWith_10 : decode cX9_openWith 10 = .ok (.ireturn, 1) := by decide +kernel
theorem dX9_openWith_11 : decode cX9_openWith 11 = .ok (.aload_n 0, 1) := by decide +kernel
theorem dX9_openWith_12 : decode cX9_openWith 12 = .ok (.getfield 63, 3) := by decide +kernel
theorem dX9_openWith_15 : decode cX9_openWith 15 = .ok (.iload_n 2, 1) := by decide +kernel
theorem dX9_openWith_16 : decode cX9_openWith 16 = .ok (.invokevirtual 134, 3) := by decide +kernel
theorem dX9_openWith_19 : decode cX9_openWith 19 = .ok (.istore_n 3, 1) := by decide +kernel
theorem dX9_openWith_20 : decode cX9_openWith 20 = .ok (.iload_n 3, 1) := by decide +kernel
theorem dX9_openWith_21 : decode cX9_openWith 21 = .ok (.iconst (-1), 1) := by decide +kernel
theorem dX9_openWith_22 : decode cX9_openWith 22 = .ok (.if_icmp .eq 20, 3) := by decide +kernel
theorem dX9_openWith_25 : decode cX9_openWith 25 = .ok (.aload_n 0, 1) := by decide +kernel
theorem dX9_openWith_26 : decode cX9_openWith 26 = .ok (.iload_n 3, 1) := by decide +kernel
theorem dX9_openWith_27 : decode cX9_openWith 27 = .ok (.aload_n 0, 1) := by decide +kernel
theorem dX9_openWith_28 : decode cX9_openWith 28 = .ok (.getfield 63, 3) := by decide +kernel
theorem dX9_openWith_31 : decode cX9_openWith 31 = .ok (.getfield 87, 3) := by decide +kernel
theorem dX9_openWith_34 : decode cX9_openWith 34 = .ok (.iload_n 1, 1) := by decide +kernel
theorem dX9_openWith_35 : decode cX9_openWith 35 = .ok (.iaload, 1) := by decide +kernel
theorem dX9_openWith_36 : decode cX9_openWith 36 = .ok (.invokevirtual 97, 3) := by decide +kernel
theorem dX9_openWith_39 : decode cX9_openWith 39 = .ok (.ifCond .ne 5, 3) := by decide +kernel
theorem dX9_openWith_42 : decode cX9_openWith 42 = .ok (.iconst (-1), 1) := by decide +kernel
theorem dX9_openWith_43 : decode cX9_openWith 43 = .ok (.ireturn, 1) := by decide +kernel
theorem dX9_openWith_44 : decode cX9_openWith 44 = .ok (.aload_n 0, 1) := by decide +kernel
theorem dX9_openWith_45 : decode cX9_openWith 45 = .ok (.getfield 63, 3) := by decide +kernel
theorem dX9_openWith_48 : decode cX9_openWith 48 = .ok (.getfield 71, 3) := by decide +kernel
theorem dX9_openWith_51 : decode cX9_openWith 51 = .ok (.iload_n 2, 1) := by decide +kernel
theorem dX9_openWith_52 : decode cX9_openWith 52 = .ok (.dup2, 1) := by decide +kernel
theorem dX9_openWith_53 : decode cX9_openWith 53 = .ok (.iaload, 1) := by decide +kernel
theorem dX9_openWith_54 : decode cX9_openWith 54 = .ok (.iconst 1, 1) := by decide +kernel
theorem dX9_openWith_55 : decode cX9_openWith 55 = .ok (.isub, 1) := by decide +kernel
theorem dX9_openWith_56 : decode cX9_openWith 56 = .ok (.iastore, 1) := by decide +kernel
theorem dX9_openWith_57 : decode cX9_openWith 57 = .ok (.iload_n 3, 1) := by decide +kernel
theorem dX9_openWith_58 : decode cX9_openWith 58 = .ok (.ireturn, 1) := by decide +kernel
theorem dX9_shutWith_0 : decode cX9_shutWith 0 = .ok (.aload_n 0, 1) := by decide +kernel
theorem dX9_shutWith_1 : decode cX9_shutWith 1 = .ok (.iload_n 1, 1) := by decide +kernel
theorem dX9_shutWith_2 : decode cX9_shutWith 2 = .ok (.iload_n 2, 1) := by decide +kernel
theorem dX9_shutWith_3 : decode cX9_shutWith 3 = .ok (.invokevirtual 131, 3) := by decide +kernel
theorem dX9_shutWith_6 : decode cX9_shutWith 6 = .ok (.ifCond .eq 32, 3) := by decide +kernel
theorem dX9_shutWith_9 : decode cX9_shutWith 9 = .ok (.aload_n 0, 1) := by decide +kernel
theorem dX9_shutWith_10 : decode cX9_shutWith 10 = .ok (.iload_n 3, 1) := by decide +kernel
theorem dX9_shutWith_11 : decode cX9_shutWith 11 = .ok (.aload_n 0, 1) := by decide +kernel
theorem dX9_shutWith_12 : decode cX9_shutWith 12 = .ok (.getfield 63, 3) := by decide +kernel
theorem dX9_shutWith_15 : decode cX9_shutWith 15 = .ok (.getfield 87, 3) := by decide +kernel
theorem dX9_shutWith_18 : decode cX9_shutWith 18 = .ok (.iload_n 1, 1) := by decide +kernel
theorem dX9_shutWith_19 : decode cX9_shutWith 19 = .ok (.iaload, 1) := by decide +kernel
theorem dX9_shutWith_20 : decode cX9_shutWith 20 = .ok (.invokevirtual 97, 3) := by decide +kernel
theorem dX9_shutWith_23 : decode cX9_shutWith 23 = .ok (.ifCond .eq 15, 3) := by decide +kernel
theorem dX9_shutWith_26 : decode cX9_shutWith 26 = .ok (.aload_n 0, 1) := by decide +kernel
theorem dX9_shutWith_27 : decode cX9_shutWith 27 = .ok (.getfield 63, 3) := by decide +kernel
theorem dX9_shutWith_30 : decode cX9_shutWith 30 = .ok (.iload_n 2, 1) := by decide +kernel
theorem dX9_shutWith_31 : decode cX9_shutWith 31 = .ok (.iload_n 3, 1) := by decide +kernel
theorem dX9_shutWith_32 : decode cX9_shutWith 32 = .ok (.invokevirtual 137, 3) := by decide +kernel
theorem dX9_shutWith_35 : decode cX9_shutWith 35 = .ok (.ifCond .ne 5, 3) := by decide +kernel
theorem dX9_shutWith_38 : decode cX9_shutWith 38 = .ok (.iconst (-1), 1) := by decide +kernel
theorem dX9_shutWith_39 : decode cX9_shutWith 39 = .ok (.ireturn, 1) := by decide +kernel
theorem dX9_shutWith_40 : decode cX9_shutWith 40 = .ok (.aload_n 0, 1) := by decide +kernel
theorem dX9_shutWith_41 : decode cX9_shutWith 41 = .ok (.getfield 63, 3) := by decide +kernel
theorem dX9_shutWith_44 : decode cX9_shutWith 44 = .ok (.getfield 71, 3) := by decide +kernel
theorem dX9_shutWith_47 : decode cX9_shutWith 47 = .ok (.iload_n 2, 1) := by decide +kernel
theorem dX9_shutWith_48 : decode cX9_shutWith 48 = .ok (.iaload, 1) := by decide +kernel
theorem dX9_shutWith_49 : decode cX9_shutWith 49 = .ok (.ireturn, 1) := by decide +kernel
theorem dX9_lendTo_0 : decode cX9_lendTo 0 = .ok (.aload_n 0, 1) := by decide +kernel
theorem dX9_lendTo_1 : decode cX9_lendTo 1 = .ok (.iload_n 1, 1) := by decide +kernel
theorem dX9_lendTo_2 : decode cX9_lendTo 2 = .ok (.iload_n 2, 1) := by decide +kernel
theorem dX9_lendTo_3 : decode cX9_lendTo 3 = .ok (.invokevirtual 131, 3) := by decide +kernel
theorem dX9_lendTo_6 : decode cX9_lendTo 6 = .ok (.ifCond .eq 17, 3) := by decide +kernel
theorem dX9_lendTo_9 : decode cX9_lendTo 9 = .ok (.aload_n 0, 1) := by decide +kernel
theorem dX9_lendTo_10 : decode cX9_lendTo 10 = .ok (.iconst 3, 1) := by decide +kernel
theorem dX9_lendTo_11 : decode cX9_lendTo 11 = .ok (.iload_n 3, 1) := by decide +kernel
theorem dX9_lendTo_12 : decode cX9_lendTo 12 = .ok (.invokevirtual 90, 3) := by decide +kernel
theorem dX9_lendTo_15 : decode cX9_lendTo 15 = .ok (.ifCond .eq 8, 3) := by decide +kernel
theorem dX9_lendTo_18 : decode cX9_lendTo 18 = .ok (.iload_n 3, 1) := by decide +kernel
theorem dX9_lendTo_19 : decode cX9_lendTo 19 = .ok (.iload_n 1, 1) := by decide +kernel
theorem dX9_lendTo_20 : decode cX9_lendTo 20 = .ok (.if_icmp .ne 5, 3) := by decide +kernel
theorem dX9_lendTo_23 : decode cX9_lendTo 23 = .ok (.iconst 0, 1) := by decide +kernel
theorem dX9_lendTo_24 : decode cX9_lendTo 24 = .ok (.ireturn, 1) := by decide +kernel
theorem dX9_lendTo_25 : decode cX9_lendTo 25 = .ok (.aload_n 0, 1) := by decide +kernel
theorem dX9_lendTo_26 : decode cX9_lendTo 26 = .ok (.getfield 63, 3) := by decide +kernel
theorem dX9_lendTo_29 : decode cX9_lendTo 29 = .ok (.getfield 87, 3) := by decide +kernel
theorem dX9_lendTo_32 : decode cX9_lendTo 32 = .ok (.iload_n 1, 1) := by decide +kernel
theorem dX9_lendTo_33 : decode cX9_lendTo 33 = .ok (.iaload, 1) := by decide +kernel
theorem dX9_lendTo_34 : decode cX9_lendTo 34 = .ok (.aload_n 0, 1) := by decide +kernel
theorem dX9_lendTo_35 : decode cX9_lendTo 35 = .ok (.getfield 63, 3) := by decide +kernel
theorem dX9_lendTo_38 : decode cX9_lendTo 38 = .ok (.getfield 87, 3) := by decide +kernel
theorem dX9_lendTo_41 : decode cX9_lendTo 41 = .ok (.iload_n 3, 1) := by decide +kernel
theorem dX9_lendTo_42 : decode cX9_lendTo 42 = .ok (.iaload, 1) := by decide +kernel
theorem dX9_lendTo_43 : decode cX9_lendTo 43 = .ok (.if_icmp .eq 5, 3) := by decide +kernel
theorem dX9_lendTo_46 : decode cX9_lendTo 46 = .ok (.iconst 0, 1) := by decide +kernel
theorem dX9_lendTo_47 : decode cX9_lendTo 47 = .ok (.ireturn, 1) := by decide +kernel
theorem dX9_lendTo_48 : decode cX9_lendTo 48 = .ok (.aload_n 0, 1) := by decide +kernel
theorem dX9_lendTo_49 : decode cX9_lendTo 49 = .ok (.getfield 63, 3) := by decide +kernel
theorem dX9_lendTo_52 : decode cX9_lendTo 52 = .ok (.getfield 84, 3) := by decide +kernel
theorem dX9_lendTo_55 : decode cX9_lendTo 55 = .ok (.iload_n 2, 1) := by decide +kernel
theorem dX9_lendTo_56 : decode cX9_lendTo 56 = .ok (.iload_n 3, 1) := by decide +kernel
theorem dX9_lendTo_57 : decode cX9_lendTo 57 = .ok (.iastore, 1) := by decide +kernel
theorem dX9_lendTo_58 : decode cX9_lendTo 58 = .ok (.iconst 1, 1) := by decide +kernel
theorem dX9_lendTo_59 : decode cX9_lendTo 59 = .ok (.ireturn, 1) := by decide +kernel
theorem dX9_takeUp_0 : decode cX9_takeUp 0 = .ok (.aload_n 0, 1) := by decide +kernel
theorem dX9_takeUp_1 : decode cX9_takeUp 1 = .ok (.iconst 3, 1) := by decide +kernel
theorem dX9_takeUp_2 : decode cX9_takeUp 2 = .ok (.iload_n 1, 1) := by decide +kernel
theorem dX9_takeUp_3 : decode cX9_takeUp 3 = .ok (.invokevirtual 90, 3) := by decide +kernel
theorem dX9_takeUp_6 : decode cX9_takeUp 6 = .ok (.ifCond .eq 12, 3) := by decide +kernel
theorem dX9_takeUp_9 : decode cX9_takeUp 9 = .ok (.aload_n 0, 1) := by decide +kernel
theorem dX9_takeUp_10 : decode cX9_takeUp 10 = .ok (.iconst 2, 1) := by decide +kernel
theorem dX9_takeUp_11 : decode cX9_takeUp 11 = .ok (.iload_n 2, 1) := by decide +kernel
theorem dX9_takeUp_12 : decode cX9_takeUp 12 = .ok (.invokevirtual 90, 3) := by decide +kernel
theorem dX9_takeUp_15 : decode cX9_takeUp 15 = .ok (.ifCond .ne 5, 3) := by decide +kernel
theorem dX9_takeUp_18 : decode cX9_takeUp 18 = .ok (.iconst 0, 1) := by decide +kernel
theorem dX9_takeUp_19 : decode cX9_takeUp 19 = .ok (.ireturn, 1) := by decide +kernel
theorem dX9_takeUp_20 : decode cX9_takeUp 20 = .ok (.aload_n 0, 1) := by decide +kernel
theorem dX9_takeUp_21 : decode cX9_takeUp 21 = .ok (.getfield 63, 3) := by decide +kernel
theorem dX9_takeUp_24 : decode cX9_takeUp 24 = .ok (.getfield 84, 3) := by decide +kernel
theorem dX9_takeUp_27 : decode cX9_takeUp 27 = .ok (.iload_n 2, 1) := by decide +kernel
theorem dX9_takeUp_28 : decode cX9_takeUp 28 = .ok (.iaload, 1) := by decide +kernel
theorem dX9_takeUp_29 : decode cX9_takeUp 29 = .ok (.istore_n 3, 1) := by decide +kernel
theorem dX9_takeUp_30 : decode cX9_takeUp 30 = .ok (.aload_n 0, 1) := by decide +kernel
theorem dX9_takeUp_31 : decode cX9_takeUp 31 = .ok (.getfield 63, 3) := by decide +kernel
theorem dX9_takeUp_34 : decode cX9_takeUp 34 = .ok (.getfield 87, 3) := by decide +kernel
theorem dX9_takeUp_37 : decode cX9_takeUp 37 = .ok (.iload_n 1, 1) := by decide +kernel
theorem dX9_takeUp_38 : decode cX9_takeUp 38 = .ok (.iaload, 1) := by decide +kernel
theorem dX9_takeUp_39 : decode cX9_takeUp 39 = .ok (.istore 4, 2) := by decide +kernel
theorem dX9_takeUp_41 : decode cX9_takeUp 41 = .ok (.iload_n 3, 1) := by decide +kernel
theorem dX9_takeUp_42 : decode cX9_takeUp 42 = .ok (.bipush 10, 2) := by decide +kernel
theorem dX9_takeUp_44 : decode cX9_takeUp 44 = .ok (.iload 4, 2) := by decide +kernel
theorem dX9_takeUp_46 : decode cX9_takeUp 46 = .ok (.iadd, 1) := by decide +kernel
theorem dX9_takeUp_47 : decode cX9_takeUp 47 = .ok (.if_icmp .eq 18, 3) := by decide +kernel
theorem dX9_takeUp_50 : decode cX9_takeUp 50 = .ok (.aload_n 0, 1) := by decide +kernel
theorem dX9_takeUp_51 : decode cX9_takeUp 51 = .ok (.iload_n 3, 1) := by decide +kernel
theorem dX9_takeUp_52 : decode cX9_takeUp 52 = .ok (.bipush 20, 2) := by decide +kernel
theorem dX9_takeUp_54 : decode cX9_takeUp 54 = .ok (.isub, 1) := by decide +kernel
theorem dX9_takeUp_55 : decode cX9_takeUp 55 = .ok (.iload 4, 2) := by decide +kernel
theorem dX9_takeUp_57 : decode cX9_takeUp 57 = .ok (.invokevirtual 140, 3) := by decide +kernel
theorem dX9_takeUp_60 : decode cX9_takeUp 60 = .ok (.ifCond .ne 5, 3) := by decide +kernel
theorem dX9_takeUp_63 : decode cX9_takeUp 63 = .ok (.iconst 0, 1) := by decide +kernel
theorem dX9_takeUp_64 : decode cX9_takeUp 64 = .ok (.ireturn, 1) := by decide +kernel
theorem dX9_takeUp_65 : decode cX9_takeUp 65 = .ok (.aload_n 0, 1) := by decide +kernel
theorem dX9_takeUp_66 : decode cX9_takeUp 66 = .ok (.getfield 63, 3) := by decide +kernel
theorem dX9_takeUp_69 : decode cX9_takeUp 69 = .ok (.getfield 84, 3) := by decide +kernel
theorem dX9_takeUp_72 : decode cX9_takeUp 72 = .ok (.iload_n 2, 1) := by decide +kernel
theorem dX9_takeUp_73 : decode cX9_takeUp 73 = .ok (.iload_n 1, 1) := by decide +kernel
theorem dX9_takeUp_74 : decode cX9_takeUp 74 = .ok (.iastore, 1) := by decide +kernel
theorem dX9_takeUp_75 : decode cX9_takeUp 75 = .ok (.iconst 1, 1) := by decide +kernel
theorem dX9_takeUp_76 : decode cX9_takeUp 76 = .ok (.ireturn, 1) := by decide +kernel
theorem dX9_isOpenBoxAt_0 : decode cX9_isOpenBoxAt 0 = .ok (.aload_n 0, 1) := by decide +kernel
theorem dX9_isOpenBoxAt_1 : decode cX9_isOpenBoxAt 1 = .ok (.iload_n 1, 1) := by decide +kernel
theorem dX9_isOpenBoxAt_2 : decode cX9_isOpenBoxAt 2 = .ok (.invokevirtual 93, 3) := by decide +kernel
theorem dX9_isOpenBoxAt_5 : decode cX9_isOpenBoxAt 5 = .ok (.ifCond .eq 24, 3) := by decide +kernel
theorem dX9_isOpenBoxAt_8 : decode cX9_isOpenBoxAt 8 = .ok (.aload_n 0, 1) := by decide +kernel
theorem dX9_isOpenBoxAt_9 : decode cX9_isOpenBoxAt 9 = .ok (.iload_n 1, 1) := by decide +kernel
theorem dX9_isOpenBoxAt_10 : decode cX9_isOpenBoxAt 10 = .ok (.iload_n 2, 1) := by decide +kernel
theorem dX9_isOpenBoxAt_11 : decode cX9_isOpenBoxAt 11 = .ok (.invokevirtual 97, 3) := by decide +kernel
theorem dX9_isOpenBoxAt_14 : decode cX9_isOpenBoxAt 14 = .ok (.ifCond .eq 15, 3) := by decide +kernel
theorem dX9_isOpenBoxAt_17 : decode cX9_isOpenBoxAt 17 = .ok (.aload_n 0, 1) := by decide +kernel
theorem dX9_isOpenBoxAt_18 : decode cX9_isOpenBoxAt 18 = .ok (.iload_n 1, 1) := by decide +kernel
theorem dX9_isOpenBoxAt_19 : decode cX9_isOpenBoxAt 19 = .ok (.invokevirtual 143, 3) := by decide +kernel
theorem dX9_isOpenBoxAt_22 : decode cX9_isOpenBoxAt 22 = .ok (.ifCond .ne 7, 3) := by decide +kernel
theorem dX9_isOpenBoxAt_25 : decode cX9_isOpenBoxAt 25 = .ok (.iconst 1, 1) := by decide +kernel
theorem dX9_isOpenBoxAt_26 : decode cX9_isOpenBoxAt 26 = .ok (.goto 4, 3) := by decide +kernel
theorem dX9_isOpenBoxAt_29 : decode cX9_isOpenBoxAt 29 = .ok (.iconst 0, 1) := by decide +kernel
theorem dX9_isOpenBoxAt_30 : decode cX9_isOpenBoxAt 30 = .ok (.ireturn, 1) := by decide +kernel
