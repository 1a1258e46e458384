theorem dX5_readHas_0 : decode cX5_readHas 0 = .ok (.aload_n 0, 1) := by decide +kernel
theorem dX5_readHas_1 : decode cX5_readHas 1 = .ok (.aload_n 1, 1) := by decide +kernel
theorem dX5_readHas_2 : decode cX5_readHas 2 = .ok (.iconst 3, 1) := by decide +kernel
theorem dX5_readHas_3 : decode cX5_readHas 3 = .ok (.invokevirtual 128, 3) := by decide +kernel
theorem dX5_readHas_6 : decode cX5_readHas 6 = .ok (.istore_n 2, 1) := by decide +kernel
theorem dX5_readHas_7 : decode cX5_readHas 7 = .ok (.iload_n 2, 1) := by decide +kernel
theorem dX5_readHas_8 : decode cX5_readHas 8 = .ok (.iconst (-1), 1) := by decide +kernel
theorem dX5_readHas_9 : decode cX5_readHas 9 = .ok (.if_icmp .ne 7, 3) := by decide +kernel
theorem dX5_readHas_12 : decode cX5_readHas 12 = .ok (.iconst (-1), 1) := by decide +kernel
theorem dX5_readHas_13 : decode cX5_readHas 13 = .ok (.goto 9, 3) := by decide +kernel
theorem dX5_readHas_16 : decode cX5_readHas 16 = .ok (.aload_n 0, 1) := by decide +kernel
theorem dX5_readHas_17 : decode cX5_readHas 17 = .ok (.aload_n 1, 1) := by decide +kernel
theorem dX5_readHas_18 : decode cX5_readHas 18 = .ok (.iconst 2, 1) := by decide +kernel
theorem dX5_readHas_19 : decode cX5_readHas 19 = .ok (.invokevirtual 128, 3) := by decide +kernel
theorem dX5_readHas_22 : decode cX5_readHas 22 = .ok (.istore_n 3, 1) := by decide +kernel
theorem dX5_readHas_23 : decode cX5_readHas 23 = .ok (.iload_n 3, 1) := by decide +kernel
theorem dX5_readHas_24 : decode cX5_readHas 24 = .ok (.iconst (-1), 1) := by decide +kernel
theorem dX5_readHas_25 : decode cX5_readHas 25 = .ok (.if_icmp .ne 5, 3) := by decide +kernel
theorem dX5_readHas_28 : decode cX5_readHas 28 = .ok (.iconst 0, 1) := by decide +kernel
theorem dX5_readHas_29 : decode cX5_readHas 29 = .ok (.ireturn, 1) := by decide +kernel
theorem dX5_readHas_30 : decode cX5_readHas 30 = .ok (.aload_n 1, 1) := by decide +kernel
theorem dX5_readHas_31 : decode cX5_readHas 31 = .ok (.getfield 190, 3) := by decide +kernel
theorem dX5_readHas_34 : decode cX5_readHas 34 = .ok (.getfield 194, 3) := by decide +kernel
theorem dX5_readHas_37 : decode cX5_readHas 37 = .ok (.iload_n 3, 1) := by decide +kernel
theorem dX5_readHas_38 : decode cX5_readHas 38 = .ok (.iaload, 1) := by decide +kernel
theorem dX5_readHas_39 : decode cX5_readHas 39 = .ok (.bipush 10, 2) := by decide +kernel
theorem dX5_readHas_41 : decode cX5_readHas 41 = .ok (.if_icmp .ge 9, 3) := by decide +kernel
theorem dX5_readHas_44 : decode cX5_readHas 44 = .ok (.aload_n 0, 1) := by decide +kernel
theorem dX5_readHas_45 : decode cX5_readHas 45 = .ok (.iconst 3, 1) := by decide +kernel
theorem dX5_readHas_46 : decode cX5_readHas 46 = .ok (.invokevirtual 132, 3) := by decide +kernel
theorem dX5_readHas_49 : decode cX5_readHas 49 = .ok (.ireturn, 1) := by decide +kernel
theorem dX5_readHas_50 : decode cX5_readHas 50 = .ok (.aload_n 1, 1) := by decide +kernel
theorem dX5_readHas_51 : decode cX5_readHas 51 = .ok (.getfield 190, 3) := by decide +kernel
theorem dX5_readHas_54 : decode cX5_readHas 54 = .ok (.getfield 194, 3) := by decide +kernel
theorem dX5_readHas_57 : decode cX5_readHas 57 = .ok (.iload_n 3, 1) := by decide +kernel
theorem dX5_readHas_58 : decode cX5_readHas 58 = .ok (.iload_n 2, 1) := by decide +kernel
theorem dX5_readHas_59 : decode cX5_readHas 59 = .ok (.iastore, 1) := by decide +kernel
theorem dX5_readHas_60 : decode cX5_readHas 60 = .ok (.iconst 1, 1) := by decide +kernel
theorem dX5_readHas_61 : decode cX5_readHas 61 = .ok (.ireturn, 1) := by decide +kernel
theorem dX5_readShut_0 : decode cX5_readShut 0 = .ok (.aload_n 0, 1) := by decide +kernel
theorem dX5_readShut_1 : decode cX5_readShut 1 = .ok (.aload_n 1, 1) := by decide +kernel
theorem dX5_readShut_2 : decode cX5_readShut 2 = .ok (.iconst 1, 1) := by decide +kernel
theorem dX5_readShut_3 : decode cX5_readShut 3 = .ok (.invokevirtual 128, 3) := by decide +kernel
theorem dX5_readShut_6 : decode cX5_readShut 6 = .ok (.istore_n 2, 1) := by decide +kernel
theorem dX5_readShut_7 : decode cX5_readShut 7 = .ok (.iload_n 2, 1) := by decide +kernel
theorem dX5_readShut_8 : decode cX5_readShut 8 = .ok (.iconst (-1), 1) := by decide +kernel
theorem dX5_readShut_9 : decode cX5_readShut 9 = .ok (.if_icmp .eq 12, 3) := by decide +kernel
theorem dX5_readShut_12 : decode cX5_readShut 12 = .ok (.aload_n 0, 1) := by decide +kernel
theorem dX5_readShut_13 : decode cX5_readShut 13 = .ok (.bipush 14, 2) := by decide +kernel
theorem dX5_readShut_15 : decode cX5_readShut 15 = .ok (.invokevirtual 144, 3) := by decide +kernel
theorem dX5_readShut_18 : decode cX5_readShut 18 = .ok (.ifCond .ne 5, 3) := by decide +kernel
theorem dX5_readShut_21 : decode cX5_readShut 21 = .ok (.iconst 0, 1) := by decide +kernel
theorem dX5_readShut_22 : decode cX5_readShut 22 = .ok (.ireturn, 1) := by decide +kernel
theorem dX5_readShut_23 : decode cX5_readShut 23 = .ok (.aload_n 0, 1) := by decide +kernel
theorem dX5_readShut_24 : decode cX5_readShut 24 = .ok (.aload_n 1, 1) := by decide +kernel
theorem dX5_readShut_25 : decode cX5_readShut 25 = .ok (.iconst 2, 1) := by decide +kernel
theorem dX5_readShut_26 : decode cX5_readShut 26 = .ok (.invokevirtual 128, 3) := by decide +kernel
theorem dX5_readShut_29 : decode cX5_readShut 29 = .ok (.istore_n 3, 1) := by decide +kernel
theorem dX5_readShut_30 : decode cX5_readShut 30 = .ok (.iload_n 3, 1) := by decide +kernel
theorem dX5_readShut_31 : decode cX5_readShut 31 = .ok (.iconst (-1), 1) := by decide +kernel
theorem dX5_readShut_32 : decode cX5_readShut 32 = .ok (.if_icmp .ne 5, 3) := by decide +kernel
theorem dX5_readShut_35 : decode cX5_readShut 35 = .ok (.iconst 0, 1) := by decide +kernel
theorem dX5_readShut_36 : decode cX5_readShut 36 = .ok (.ireturn, 1) := by decide +kernel
theorem dX5_readShut_37 : decode cX5_readShut 37 = .ok (.aload_n 1, 1) := by decide +kernel
theorem dX5_readShut_38 : decode cX5_readShut 38 = .ok (.getfield 190, 3) := by decide +kernel
theorem dX5_readShut_41 : decode cX5_readShut 41 = .ok (.iload_n 3, 1) := by decide +kernel
theorem dX5_readShut_42 : decode cX5_readShut 42 = .ok (.iload_n 2, 1) := by decide +kernel
theorem dX5_readShut_43 : decode cX5_readShut 43 = .ok (.invokevirtual 199, 3) := by decide +kernel
theorem dX5_readShut_46 : decode cX5_readShut 46 = .ok (.ifCond .ne 11, 3) := by decide +kernel
theorem dX5_readShut_49 : decode cX5_readShut 49 = .ok (.aload_n 0, 1) := by decide +kernel
theorem dX5_readShut_50 : decode cX5_readShut 50 = .ok (.iconst 3, 1) := by decide +kernel
theorem dX5_readShut_51 : decode cX5_readShut 51 = .ok (.invokevirtual 132, 3) := by decide +kernel
theorem dX5_readShut_54 : decode cX5_readShut 54 = .ok (.ifCond .eq 7, 3) := by decide +kernel
theorem dX5_readShut_57 : decode cX5_readShut 57 = .ok (.iconst 1, 1) := by decide +kernel
theorem dX5_readShut_58 : decode cX5_readShut 58 = .ok (.goto 4, 3) := by decide +kernel
theorem dX5_readShut_61 : decode cX5_readShut 61 = .ok (.iconst 0, 1) := by decide +kernel
theorem dX5_readShut_62 : decode cX5_readShut 62 = .ok (.ireturn, 1) := by decide +kernel
theorem dX5_readLost_0 : decode cX5_readLost 0 = .ok (.aload_n 0, 1) := by decide +kernel
theorem dX5_readLost_1 : decode cX5_readLost 1 = .ok (.aload_n 1, 1) := by decide +kernel
theorem dX5_readLost_2 : decode cX5_readLost 2 = .ok (.iconst 1, 1) := by decide +kernel
theorem dX5_readLost_3 : decode cX5_readLost 3 = .ok (.invokevirtual 128, 3) := by decide +kernel
theorem dX5_readLost_6 : decode cX5_readLost 6 = .ok (.istore_n 2, 1) := by decide +kernel
theorem dX5_readLost_7 : decode cX5_readLost 7 = .ok (.iload_n 2, 1) := by decide +kernel
theorem dX5_readLost_8 : decode cX5_readLost 8 = .ok (.iconst (-1), 1) := by decide +kernel
theorem dX5_readLost_9 : decode cX5_readLost 9 = .ok (.if_icmp .ne 5, 3) := by decide +kernel
theorem dX5_readLost_12 : decode cX5_readLost 12 = .ok (.iconst 0, 1) := by decide +kernel
theorem dX5_readLost_13 : decode cX5_readLost 13 = .ok (.ireturn, 1) := by decide +kernel
theorem dX5_readLost_14 : decode cX5_readLost 14 = .ok (.aload_n 1, 1) := by decide +kernel
theorem dX5_readLost_15 : decode cX5_readLost 15 = .ok (.getfield 202, 3) := by decide +kernel
theorem dX5_readLost_18 : decode cX5_readLost 18 = .ok (.iload_n 2, 1) := by decide +kernel
theorem dX5_readLost_19 : decode cX5_readLost 19 = .ok (.ishr, 1) := by decide +kernel
theorem dX5_readLost_20 : decode cX5_readLost 20 = .ok (.iconst 1, 1) := by decide +kernel
theorem dX5_readLost_21 : decode cX5_readLost 21 = .ok (.iand, 1) := by decide +kernel
theorem dX5_readLost_22 : decode cX5_readLost 22 = .ok (.ifCond .eq 9, 3) := by decide +kernel
theorem dX5_readLost_25 : decode cX5_readLost 25 = .ok (.aload_n 0, 1) := by decide +kernel
theorem dX5_readLost_26 : decode cX5_readLost 26 = .ok (.iconst 3, 1) := by decide +kernel
theorem dX5_readLost_27 : decode cX5_readLost 27 = .ok (.invokevirtual 132, 3) := by decide +kernel
theorem dX5_readLost_30 : decode cX5_readLost 30 = .ok (.ireturn, 1) := by decide +kernel
theorem dX5_readLost_31 : decode cX5_readLost 31 = .ok (.aload_n 1, 1) := by decide +kernel
theorem dX5_readLost_32 : decode cX5_readLost 32 = .ok (.dup, 1) := by decide +kernel
theorem dX5_readLost_33 : decode cX5_readLost 33 = .ok (.getfield 202, 3) := by decide +kernel
theorem dX5_readLost_36 : decode cX5_readLost 36 = .ok (.iconst 1, 1) := by decide +kernel
theorem dX5_readLost_37 : decode cX5_readLost 37 = .ok (.iload_n 2, 1) := by decide +kernel
theorem dX5_readLost_38 : decode cX5_readLost 38 = .ok (.ishl, 1) := by decide +kernel
theorem dX5_readLost_39 : decode cX5_readLost 39 = .ok (.ior, 1) := by decide +kernel
theorem dX5_readLost_40 : decode cX5_readLost 40 = .ok (.putfield 202, 3) := by decide +kernel
theorem dX5_readLost_43 : decode cX5_readLost 43 = .ok (.iconst 1, 1) := by decide +kernel
theorem dX5_readLost_44 : decode cX5_readLost 44 = .ok (.ireturn, 1) := by decide +kernel
theorem dX5_comparisonSign_0 : decode cX5_comparisonSign 0 = .ok (.aload_n 0, 1) := by decide +kernel
theorem dX5_comparisonSign_1 : decode cX5_comparisonSign 1 = .ok (.getfield 30, 3) := by decide +kernel
theorem dX5_comparisonSign_4 : decode cX5_comparisonSign 4 = .ok (.invokevirtual 54, 3) := by decide +kernel
theorem dX5_comparisonSign_7 : decode cX5_comparisonSign 7 = .ok (.iconst (-1), 1) := by decide +kernel
theorem dX5_comparisonSign_8 : decode cX5_comparisonSign 8 = .ok (.istore_n 1, 1) := by decide +kernel
theorem dX5_comparisonSign_9 : decode cX5_comparisonSign 9 = .ok (.aload_n 0, 1) := by decide +kernel
theorem dX5_comparisonSign_10 : decode cX5_comparisonSign 10 = .ok (.getfield 30, 3) := by decide +kernel
theorem dX5_comparisonSign_13 : decode cX5_comparisonSign 13 = .ok (.bipush 60, 2) := by decide +kernel
theorem dX5_comparisonSign_15 : decode cX5_comparisonSign 15 = .ok (.invokevirtual 241, 3) := by decide +kernel
theorem dX5_comparisonSign_18 : decode cX5_comparisonSign 18 = .ok (.ifCond .eq 9, 3) := by decide +kernel
theorem dX5_comparisonSign_21 : decode cX5_comparisonSign 21 = .ok (.bipush (-9), 2) := by decide +kernel
theorem dX5_comparisonSign_23 : decode cX5_comparisonSign 23 = .ok (.istore_n 1, 1) := by decide +kernel
theorem dX5_comparisonSign_24 : decode cX5_comparisonSign 24 = .ok (.goto 45, 3) := by decide +kernel
theorem dX5_comparisonSign_27 : decode cX5_comparisonSign 27 = .ok (.aload_n 0, 1) := by decide +kernel
theorem dX5_comparisonSign_28 : decode cX5_comparisonSign 28 = .ok (.getfield 30, 3) := by decide +kernel
theorem dX5_comparisonSign_31 : decode cX5_comparisonSign 31 = .ok (.bipush 62, 2) := by decide +kernel
theorem dX5_comparisonSign_33 : decode cX5_comparisonSign 33 = .ok (.invokevirtual 241, 3) := by decide +kernel
theorem dX5_comparisonSign_36 : decode cX5_comparisonSign 36 = .ok (.ifCond .eq 9, 3) := by decide +kernel
theorem dX5_comparisonSign_39 : decode cX5_comparisonSign 39 = .ok (.bipush (-10), 2) := by decide +kernel
theorem dX5_comparisonSign_41 : decode cX5_comparisonSign 41 = .ok (.istore_n 1, 1) := by decide +kernel
theorem dX5_comparisonSign_42 : decode cX5_comparisonSign 42 = .ok (.goto 27, 3) := by decide +kernel
theorem dX5_comparisonSign_45 : decode cX5_comparisonSign 45 = .ok (.aload_n 0, 1) := by decide +kernel
theorem dX5_comparisonSign_46 : decode cX5_comparisonSign 46 = .ok (.getfield 30, 3) := by decide +kernel
theorem dX5_comparisonSign_49 : decode cX5_comparisonSign 49 = .ok (.bipush 61, 2) := by decide +kernel
theorem dX5_comparisonSign_51 : decode cX5_comparisonSign 51 = .ok (.invokevirtual 241, 3) := by decide +kernel
theorem dX5_comparisonSign_54 : decode cX5_comparisonSign 54 = .ok (.ifCond .eq 9, 3) := by decide +kernel
theorem dX5_comparisonSign_57 : decode cX5_comparisonSign 57 = .ok (.bipush (-11), 2) := by decide +kernel
theorem dX5_comparisonSign_59 : decode cX5_comparisonSign 59 = .ok (.istore_n 1, 1) := by decide +kernel
theorem dX5_comparisonSign_60 : decode cX5_comparisonSign 60 = .ok (.goto 9, 3) := by decide +kernel
theorem dX5_comparisonSign_63 : decode cX5_comparisonSign 63 = .ok (.aload_n 0, 1) := by decide +kernel
theorem dX5_comparisonSign_64 : decode cX5_comparisonSign 64 = .ok (.iconst 1, 1) := by decide +kernel
theorem dX5_comparisonSign_65 : decode cX5_comparisonSign 65 = .ok (.invokevirtual 132, 3) := by decide +kernel
theorem dX5_comparisonSign_68 : decode cX5_comparisonSign 68 = .ok (.pop, 1) := by decide +kernel
theorem dX5_comparisonSign_69 : decode cX5_comparisonSign 69 = .ok (.aload_n 0, 1) := by decide +kernel
theorem dX5_comparisonSign_70 : decode cX5_comparisonSign 70 = .ok (.getfield 30, 3) := by decide +kernel
theorem dX5_comparisonSign_73 : decode cX5_comparisonSign 73 = .ok (.invokevirtual 125, 3) := by decide +kernel
theorem dX5_comparisonSign_76 : decode cX5_comparisonSign 76 = .ok (.iload_n 1, 1) := by decide +kernel
theorem dX5_comparisonSign_77 : decode cX5_comparisonSign 77 = .ok (.ireturn, 1) := by decide +kernel
theorem dX5_enter_0 : decode cX5_enter 0 = .ok (.aload_n 0, 1) := by decide +kernel
theorem dX5_enter_1 : decode cX5_enter 1 = .ok (.getfield 22, 3) := by decide +kernel
theorem dX5_enter_4 : decode cX5_enter 4 = .ok (.bipush 8, 2) := by decide +kernel
theorem dX5_enter_6 : decode cX5_enter 6 = .ok (.if_icmp .lt 9, 3) := by decide +kernel
theorem dX5_enter_9 : decode cX5_enter 9 = .ok (.aload_n 0, 1) := by decide +kernel
theorem dX5_enter_10 : decode cX5_enter 10 = .ok (.iconst 5, 1) := by decide +kernel
theorem dX5_enter_11 : decode cX5_enter 11 = .ok (.invokevirtual 132, 3) := by decide +kernel
theorem dX5_enter_14 : decode cX5_enter 14 = .ok (.ireturn, 1) := by decide +kernel
theorem dX5_enter_15 : decode cX5_enter 15 = .ok (.aload_n 0, 1) := by decide +kernel
theorem dX5_enter_16 : decode cX5_enter 16 = .ok (.dup, 1) := by decide +kernel
theorem dX5_enter_17 : decode cX5_enter 17 = .ok (.getfield 22, 3) := by decide +kernel
theorem dX5_enter_20 : decode cX5_enter 20 = .ok (.iconst 1, 1) := by decide +kernel
theorem dX5_enter_21 : decode cX5_enter 21 = .ok (.iadd, 1) := by decide +kernel
theorem dX5_enter_22 : decode cX5_enter 22 = .ok (.putfield 22, 3) := by decide +kernel
theorem dX5_enter_25 : decode cX5_enter 25 = .ok (.iconst 1, 1) := by decide +kernel
theorem dX5_enter_26 : decode cX5_enter 26 = .ok (.ireturn, 1) := by decide +kernel
theorem dX5_leave_0 : decode cX5_leave 0 = .ok (.aload_n 0, 1) := by decide +kernel
theorem dX5_leave_1 : decode cX5_leave 1 = .ok (.dup, 1) := by decide +kernel
theorem dX5_leave_2 : decode cX5_leave 2 = .ok (.getfield 22, 3) := by decide +kernel
theorem dX5_leave_5 : decode cX5_leave 5 = .ok (.iconst 1, 1) := by decide +kernel
theorem dX5_leave_6 : decode cX5_leave 6 = .ok (.isub, 1) := by decide +kernel
theorem dX5_leave_7 : decode cX5_leave 7 = .ok (.putfield 22, 3) := by decide +kernel
theorem dX5_leave_10 : decode cX5_leave 10 = .ok (.iconst 1, 1) := by decide +kernel
theorem dX5_leave_11 : decode cX5_leave 11 = .ok (.ireturn, 1) := by decide +kernel
theorem dX5_asked_0 : decode cX5_asked 0 = .ok (.aload_n 0, 1) := by decide +kernel
theorem dX5_asked_1 : decode cX5_asked 1 = .ok (.invokevirtual 244, 3) := by decide +kernel
theorem dX5_asked_4 : decode cX5_asked 4 = .ok (.ifCond .ne 9, 3) := by decide +kernel
theorem dX5_asked_7 : decode cX5_asked 7 = .ok (.aload_n 0, 1) := by decide +kernel
theorem dX5_asked_8 : decode cX5_asked 8 = .ok (.iconst 1, 1) := by decide +kernel
theorem dX5_asked_9 : decode cX5_asked 9 = .ok (.invokevirtual 121, 3) := by decide +kernel
theorem dX5_asked_12 : decode cX5_asked 12 = .ok (.ireturn, 1) := by decide +kernel
theorem dX5_asked_13 : decode cX5_asked 13 = .ok (.aload_n 0, 1) := by decide +kernel
theorem dX5_asked_14 : decode cX5_asked 14 = .ok (.getfield 30, 3) := by decide +kernel
theorem dX5_asked_17 : decode cX5_asked 17 = .ok (.invokevirtual 125, 3) := by decide +kernel
theorem dX5_asked_20 : decode cX5_asked 20 = .ok (.aload_n 1, 1) := by decide +kernel
theorem dX5_asked_21 : decode cX5_asked 21 = .ok (.iload_n 2, 1) := by decide +kernel
theorem dX5_asked_22 : decode cX5_asked 22 = .ok (.aload_n 0, 1) := by decide +kernel
theorem dX5_asked_23 : decode cX5_asked 23 = .ok (.getfield 30, 3) := by decide +kernel
theorem dX5_asked_26 : decode cX5_asked 26 = .ok (.getfield 112, 3) := by decide +kernel
theorem dX5_asked_29 : decode cX5_asked 29 = .ok (.invokevirtual 247, 3) := by decide +kernel
theorem dX5_asked_32 : decode cX5_asked 32 = .ok (.istore_n 3, 1) := by decide +kernel
theorem dX5_asked_33 : decode cX5_asked 33 = .ok (.iload_n 3, 1) := by decide +kernel
theorem dX5_asked_34 : decode cX5_asked 34 = .ok (.iconst (-1), 1) := by decide +kernel
theorem dX5_asked_35 : decode cX5_asked 35 = .ok (.if_icmp .ne 11, 3) := by decide +kernel
theorem dX5_asked_38 : decode cX5_asked 38 = .ok (.aload_n 0, 1) := by decide +kernel
theorem dX5_asked_39 : decode cX5_asked 39 = .ok (.iconst 3, 1) := by decide +kernel
theorem dX5_asked_40 : decode cX5_asked 40 = .ok (.invokevirtual 121, 3) := by decide +kernel
theorem dX5_asked_43 : decode cX5_asked 43 = .ok (.goto 4, 3) := by decide +kernel
theorem dX5_asked_46 : decode cX5_asked 46 = .ok (.iload_n 3, 1) := by decide +kernel
theorem dX5_asked_47 : decode cX5_asked 47 = .ok (.ireturn, 1) := by decide +kernel
theorem dX5_ownWord_0 : decode cX5_ownWord 0 = .ok (.aload_n 0, 1) := by decide +kernel
theorem dX5_ownWord_1 : decode cX5_ownWord 1 = .ok (.iload_n 1, 1) := by decide +kernel
theorem dX5_ownWord_2 : decode cX5_ownWord 2 = .ok (.invokevirtual 208, 3) := by decide +kernel
theorem dX5_ownWord_5 : decode cX5_ownWord 5 = .ok (.ifCond .ne 11, 3) := by decide +kernel
theorem dX5_ownWord_8 : decode cX5_ownWord 8 = .ok (.aload_n 0, 1) := by decide +kernel
theorem dX5_ownWord_9 : decode cX5_ownWord 9 = .ok (.iconst 1, 1) := by decide +kernel
theorem dX5_ownWord_10 : decode cX5_ownWord 10 = .ok (.invokevirtual 132, 3) := by decide +kernel
theorem dX5_ownWord_13 : decode cX5_ownWord 13 = .ok (.ifCond .eq 7, 3) := by decide +kernel
theorem dX5_ownWord_16 : decode cX5_ownWord 16 = .ok (.iconst 1, 1) := by decide +kernel
theorem dX5_ownWord_17 : decode cX5_ownWord 17 = .ok (.goto 4, 3) := by decide +kernel
theorem dX5_ownWord_20 : decode cX5_ownWord 20 = .ok (.iconst 0, 1) := by decide +kernel
theorem dX5_ownWord_21 : decode cX5_ownWord 21 = .ok (.ireturn, 1) := by decide +kernel
theorem dX5_passesWord_0 : decode cX5_passesWord 0 = .ok (.aload_n 0, 1) := by decide +kernel
theorem dX5_passesWord_1 : decode cX5_passesWord 1 = .ok (.getfield 30, 3) := by decide +kernel
theorem dX5_passesWord_4 : decode cX5_passesWord 4 = .ok (.invokevirtual 54, 3) := by decide +kernel
theorem dX5_passesWord_7 : decode cX5_passesWord 7 = .ok (.aload_n 0, 1) := by decide +kernel
theorem dX5_passesWord_8 : decode cX5_passesWord 8 = .ok (.getfield 30, 3) := by decide +kernel
theorem dX5_passesWord_11 : decode cX5_passesWord 11 = .ok (.getfield 57, 3) := by decide +kernel
theorem dX5_passesWord_14 : decode cX5_passesWord 14 = .ok (.iconst 1, 1) := by decide +kernel
theorem dX5_passesWord_15 : decode cX5_passesWord 15 = .ok (.if_icmp .ne 29, 3) := by decide +kernel
theorem dX5_passesWord_18 : decode cX5_passesWord 18 = .ok (.iload_n 1, 1) := by decide +kernel
theorem dX5_passesWord_19 : decode cX5_passesWord 19 = .ok (.ifCond .lt 25, 3) := by decide +kernel
theorem dX5_passesWord_22 : decode cX5_passesWord 22 = .ok (.iload_n 1, 1) := by decide +kernel
theorem dX5_passesWord_23 : decode cX5_passesWord 23 = .ok (.bipush 26, 2) := by decide +kernel
theorem dX5_passesWord_25 : decode cX5_passesWord 25 = .ok (.if_icmp .ge 19, 3) := by decide +kernel
theorem dX5_passesWord_28 : decode cX5_passesWord 28 = .ok (.aload_n 0, 1) := by decide +kernel
theorem dX5_passesWord_29 : decode cX5_passesWord 29 = .ok (.getfield 30, 3) := by decide +kernel
theorem dX5_passesWord_32 : decode cX5_passesWord 32 = .ok (.getfield 112, 3) := by decide +kernel
theorem dX5_passesWord_35 : decode cX5_passesWord 35 = .ok (.aload_n 0, 1) := by decide +kernel
theorem dX5_passesWord_36 : decode cX5_passesWord 36 = .ok (.getfield 9, 3) := by decide +kernel
theorem dX5_passesWord_39 : decode cX5_passesWord 39 = .ok (.iload_n 1, 1) := by decide +kernel
theorem dX5_passesWord_40 : decode cX5_passesWord 40 = .ok (.iaload, 1) := by decide +kernel
theorem dX5_passesWord_41 : decode cX5_passesWord 41 = .ok (.if_icmp .eq 5, 3) := by decide +kernel
theorem dX5_passesWord_44 : decode cX5_passesWord 44 = .ok (.iconst 0, 1) := by decide +kernel
theorem dX5_passesWord_45 : decode cX5_passesWord 45 = .ok (.ireturn, 1) := by decide +kernel
theorem dX5_passesWord_46 : decode cX5_passesWord 46 = .ok (.aload_n 0, 1) := by decide +kernel
theorem dX5_passesWord_47 : decode cX5_passesWord 47 = .ok (.getfield 30, 3) := by decide +kernel
theorem dX5_passesWord_50 : decode cX5_passesWord 50 = .ok (.invokevirtual 125, 3) := by decide +kernel
theorem dX5_passesWord_53 : decode cX5_passesWord 53 = .ok (.iconst 1, 1) := by decide +kernel
theorem dX5_passesWord_54 : decode cX5_passesWord 54 = .ok (.ireturn, 1) := by decide +kernel
theorem dX5_passesSign_0 : decode cX5_passesSign 0 = .ok (.aload_n 0, 1) := by decide +kernel
theorem dX5_passesSign_1 : decode cX5_passesSign 1 = .ok (.getfield 30, 3) := by decide +kernel
theorem dX5_passesSign_4 : decode cX5_passesSign 4 = .ok (.invokevirtual 54, 3) := by decide +kernel
theorem dX5_passesSign_7 : decode cX5_passesSign 7 = .ok (.aload_n 0, 1) := by decide +kernel
theorem dX5_passesSign_8 : decode cX5_passesSign 8 = .ok (.getfield 30, 3) := by decide +kernel
theorem dX5_passesSign_11 : decode cX5_passesSign 11 = .ok (.iload_n 1, 1) := by decide +kernel
theorem dX5_passesSign_12 : decode cX5_passesSign 12 = .ok (.invokevirtual 241, 3) := by decide +kernel
theorem dX5_passesSign_15 : decode cX5_passesSign 15 = .ok (.ifCond .ne 5, 3) := by decide +kernel
theorem dX5_passesSign_18 : decode cX5_passesSign 18 = .ok (.iconst 0, 1) := by decide +kernel
theorem dX5_passesSign_19 : decode cX5_passesSign 19 = .ok (.ireturn, 1) := by decide +kernel
theorem dX5_passesSign_20 : decode cX5_passesSign 20 = .ok (.aload_n 0, 1) := by decide +kernel
theorem dX5_passesSign_21 : decode cX5_passesSign 21 = .ok (.getfield 30, 3) := by decide +kernel
theorem dX5_passesSign_24 : decode cX5_passesSign 24 = .ok (.invokevirtual 125, 3) := by decide +kernel
theorem dX5_passesSign_27 : decode cX5_passesSign 27 = .ok (.iconst 1, 1) := by decide +kernel
theorem dX5_passesSign_28 : decode cX5_passesSign 28 = .ok (.ireturn, 1) := by decide +kernel
theorem dX8_add_0 : decode cX8_add 0 = .ok (.aload_n 0, 1) := by decide +kernel
theorem dX8_add_1 : decode cX8_add 1 = .ok (.getfield 18, 3) := by decide +kernel
theorem dX8_add_4 : decode cX8_add 4 = .ok (.ifCond .lt 13, 3) := by decide +kernel
theorem dX8_add_7 : decode cX8_add 7 = .ok (.aload_n 0, 1) := by decide +kernel
theorem dX8_add_8 : decode cX8_add 8 = .ok (.getfield 18, 3) := by decide +kernel
theorem dX8_add_11 : decode cX8_add 11 = .ok (.sipush 1600, 3) := by decide +kernel
theorem dX8_add_14 : decode cX8_add 14 = .ok (.if_icmp .lt 5, 3) := by decide +kernel
theorem dX8_add_17 : decode cX8_add 17 = .ok (.iconst 0, 1) := by decide +kernel
theorem dX8_add_18 : decode cX8_add 18 = .ok (.ireturn, 1) := by decide +kernel
theorem dX8_add_19 : decode cX8_add 19 = .ok (.aload_n 0, 1) := by decide +kernel
theorem dX8_add_20 : decode cX8_add 20 = .ok (.getfield 9, 3) := by decide +kernel
theorem dX8_add_23 : decode cX8_add 23 = .ok (.aload_n 0, 1) := by decide +kernel
theorem dX8_add_24 : decode cX8_add 24 = .ok (.getfield 18, 3) := by decide +kernel
theorem dX8_add_27 : decode cX8_add 27 = .ok (.iload_n 1, 1) := by decide +kernel
theorem dX8_add_28 : decode cX8_add 28 = .ok (.iastore, 1) := by decide +kernel
theorem dX8_add_29 : decode cX8_add 29 = .ok (.aload_n 0, 1) := by decide +kernel
theorem dX8_add_30 : decode cX8_add 30 = .ok (.dup, 1) := by decide +kernel
theorem dX8_add_31 : decode cX8_add 31 = .ok (.getfield 18, 3) := by decide +kernel
theorem dX8_add_34 : decode cX8_add 34 = .ok (.iconst 1, 1) := by decide +kernel
theorem dX8_add_35 : decode cX8_add 35 = .ok (.iadd, 1) := by decide +kernel
theorem dX8_add_36 : decode cX8_add 36 = .ok (.putfield 18, 3) := by decide +kernel
theorem dX8_add_39 : decode cX8_add 39 = .ok (.iconst 1, 1) := by decide +kernel
theorem dX8_add_40 : decode cX8_add 40 = .ok (.ireturn, 1) := by decide +kernel
theorem dX9_addBar_0 : decode cX9_addBar 0 = .ok (.aload_n 0, 1) := by decide +kernel
theorem dX9_addBar_1 : decode cX9_addBar 1 = .ok (.getfield 9, 3) := by decide +kernel
theorem dX9_addBar_4 : decode cX9_addBar 4 = .ok (.bipush 7, 2) := by decide +kernel
theorem dX9_addBar_6 : decode cX9_addBar 6 = .ok (.iaload, 1) := by decide +kernel
theorem dX9_addBar_7 : decode cX9_addBar 7 = .ok (.istore 4, 2) := by decide +kernel
theorem dX9_addBar_9 : decode cX9_addBar 9 = .ok (.iload 4, 2) := by decide +kernel
theorem dX9_addBar_11 : decode cX9_addBar 11 = .ok (.ifCond .lt 10, 3) := by decide +kernel
theorem dX9_addBar_14 : decode cX9_addBar 14 = .ok (.iload 4, 2) := by decide +kernel
theorem dX9_addBar_16 : decode cX9_addBar 16 = .ok (.bipush 6, 2) := by decide +kernel
theorem dX9_addBar_18 : decode cX9_addBar 18 = .ok (.if_icmp .lt 5, 3) := by decide +kernel
theorem dX9_addBar_21 : decode cX9_addBar 21 = .ok (.iconst 0, 1) := by decide +kernel
theorem dX9_addBar_22 : decode cX9_addBar 22 = .ok (.ireturn, 1) := by decide +kernel
theorem dX9_addBar_23 : decode cX9_addBar 23 = .ok (.aload_n 0, 1) := by decide +kernel
theorem dX9_addBar_24 : decode cX9_addBar 24 = .ok (.getfield 44, 3) := by decide +kernel
theorem dX9_addBar_27 : decode cX9_addBar 27 = .ok (.iload 4, 2) := by decide +kernel
theorem dX9_addBar_29 : decode cX9_addBar 29 = .ok (.iload_n 1, 1) := by decide +kernel
theorem dX9_addBar_30 : decode cX9_addBar 30 = .ok (.iastore, 1) := by decide +kernel
theorem dX9_addBar_31 : decode cX9_addBar 31 = .ok (.aload_n 0, 1) := by decide +kernel
theorem dX9_addBar_32 : decode cX9_addBar 32 = .ok (.getfield 47, 3) := by decide +kernel
theorem dX9_addBar_35 : decode cX9_addBar 35 = .ok (.iload 4, 2) := by decide +kernel
theorem dX9_addBar_37 : decode cX9_addBar 37 = .ok (.iload_n 2, 1) := by decide +kernel
theorem dX9_addBar_38 : decode cX9_addBar 38 = .ok (.iastore, 1) := by decide +kernel
theorem dX9_addBar_39 : decode cX9_addBar 39 = .ok (.aload_n 0, 1) := by decide +kernel
theorem dX9_addBar_40 : decode cX9_addBar 40 = .ok (.getfield 50, 3) := by decide +kernel
theorem dX9_addBar_43 : decode cX9_addBar 43 = .ok (.iload 4, 2) := by decide +kernel
theorem dX9_addBar_45 : decode cX9_addBar 45 = .ok (.iload_n 3, 1) := by decide +kernel
theorem dX9_addBar_46 : decode cX9_addBar 46 = .ok (.iastore, 1) := by decide +kernel
theorem dX9_addBar_47 : decode cX9_addBar 47 = .ok (.aload_n 0, 1) := by decide +kernel
theorem dX9_addBar_48 : decode cX9_addBar 48 = .ok (.getfield 9, 3) := by decide +kernel
theorem dX9_addBar_51 : decode cX9_addBar 51 = .ok (.bipush 7, 2) := by decide +kernel
theorem dX9_addBar_53 : decode cX9_addBar 53 = .ok (.dup2, 1) := by decide +kernel
theorem dX9_addBar_54 : decode cX9_addBar 54 = .ok (.iaload, 1) := by decide +kernel
theorem dX9_addBar_55 : decode cX9_addBar 55 = .ok (.iconst 1, 1) := by decide +kernel
theorem dX9_addBar_56 : decode cX9_addBar 56 = .ok (.iadd, 1) := by decide +kernel
theorem dX9_addBar_57 : decode cX9_addBar 57 = .ok (.iastore, 1) := by decide +kernel
theorem dX9_addBar_58 : decode cX9_addBar 58 = .ok (.iconst 1, 1) := by decide +kernel
theorem dX9_addBar_59 : decode cX9_addBar 59 = .ok (.ireturn, 1) := by decide +kernel
