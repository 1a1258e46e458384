theorem dX5_readHas_0 : decode cX5_readHas 0 = .ok (.aload_n 0, 1) := by decide +kernel
theorem dX5_readHas_1 : decode cX5_readHas 1 = .ok (.aload_n 1, 1) := by decide +kernel
theorem dX5_readHas_2 : decode cX5_readHas 2 = .ok (.iconst 3, 1) := by decide +kernel
theorem dX5_readHas_3 : decode cX5_readHas 3 = .ok (.invokevirtual 128, 3) := by decide +kernel
theorem dX5_readHas_6 : decode cX5_readHas 6 = .ok (.istore_n 2, 1) := by decide +kernel
theorem dX5_readHas_7 : decode cX5_readHas 7 = .ok (.iload_n 2, 1) := by decide +kernel
theorem dX5_readHas_8 : decode cX5_readHas 8 = .ok (.iconst (-1), 1) := by decide +kernel
theorem dX5_readHas_9 : decode cX5_readHas 9 = .ok (.if_icmp .ne 7, 3) := by decide +kernel
theorem dX5_readHas_12 : decode cX5_readHas 12 = .ok (.iconst (-1), 1) := by decide +kernel
theorem dX5_readHas_13 : decode cX5_readHas 13 = .ok (.goto 9, 3) := by decide +kernel
theorem dX5_readHas_16 : decode cX5_readHas 16 = .ok (.aload_n 0, 1) := by decide +kernel
theorem dX5_readHas_17 : decode cX5_readHas 17 = .ok (.aload_n 1, 1) := by decide +kernel
theorem dX5_readHas_18 : decode cX5_readHas 18 = .ok (.iconst 2, 1) := by decide +kernel
theorem dX5_readHas_19 : decode cX5_readHas 19 = .ok (.invokevirtual 128, 3) := by decide +kernel
theorem dX5_readHas_22 : decode cX5_readHas 22 = .ok (.istore_n 3, 1) := by decide +kernel
theorem dX5_readHas_23 : decode cX5_readHas 23 = .ok (.iload_n 3, 1) := by decide +kernel
theorem dX5_readHas_24 : decode cX5_readHas 24 = .ok (.iconst (-1), 1) := by decide +kernel
theorem dX5_readHas_25 : decode cX5_readHas 25 = .ok (.if_icmp .ne 5, 3) := by decide +kernel
theorem dX5_readHas_28 : decode cX5_readHas 28 = .ok (.iconst 0, 1) := by decide +kernel
theorem dX5_readHas_29 : decode cX5_readHas 29 = .ok (.ireturn, 1) := by decide +kernel
theorem dX5_readHas_30 : decode cX5_readHas 30 = .ok (.aload_n 1, 1) := by decide +kernel
theorem dX5_readHas_31 : decode cX5_readHas 31 = .ok (.getfield 190, 3) := by decide +kernel
theorem dX5_readHas_34 : decode cX5_readHas 34 = .ok (.getfield 194, 3) := by decide +kernel
theorem dX5_readHas_37 : decode cX5_readHas 37 = .ok (.iload_n 3, 1) := by decide +kernel
theorem dX5_readHas_38 : decode cX5_readHas 38 = .ok (.iaload, 1) := by decide +kernel
theorem dX5_readHas_39 : decode cX5_readHas 39 = .ok (.bipush 10, 2) := by decide +kernel
theorem dX5_readHas_41 : decode cX5_readHas 41 = .ok (.if_icmp .ge 9, 3) := by decide +kernel
theorem dX5_readHas_44 : decode cX5_readHas 44 = .ok (.aload_n 0, 1) := by decide +kernel
theorem dX5_readHas_45 : decode cX5_readHas 45 = .ok (.iconst 3, 1) := by decide +kernel
theorem dX5_readHas_46 : decode cX5_readHas 46 = .ok (.invokevirtual 132, 3) := by decide +kernel
theorem dX5_readHas_49 : decode cX5_readHas 49 = .ok (.ireturn, 1) := by decide +kernel
theorem dX5_readHas_50 : decode cX5_readHas 50 = .ok (.aload_n 1, 1) := by decide +kernel
theorem dX5_readHas_51 : decode cX5_readHas 51 = .ok (.getfield 190, 3) := by decide +kernel
theorem dX5_readHas_54 : decode cX5_readHas 54 = .ok (.getfield 194, 3) := by decide +kernel
theorem dX5_readHas_57 : decode cX5_readHas 57 = .ok (.iload_n 3, 1) := by decide +kernel
theorem dX5_readHas_58 : decode cX5_readHas 58 = .ok (.iload_n 2, 1) := by decide +kernel
theorem dX5_readHas_59 : decode cX5_readHas 59 = .ok (.iastore, 1) := by decide +kernel
theorem dX5_readHas_60 : decode cX5_readHas 60 = .ok (.iconst 1, 1) := by decide +kernel
theorem dX5_readHas_61 : decode cX5_readHas 61 = .ok (.ireturn, 1) := by decide +kernel
theorem dX5_comparisonSign_0 : decode cX5_comparisonSign 0 = .ok (.aload_n 0, 1) := by decide +kernel
theorem dX5_comparisonSign_1 : decode cX5_comparisonSign 1 = .ok (.getfield 30, 3) := by decide +kernel
theorem dX5_comparisonSign_4 : decode cX5_comparisonSign 4 = .ok (.invokevirtual 54, 3) := by decide +kernel
theorem dX5_comparisonSign_7 : decode cX5_comparisonSign 7 = .ok (.iconst (-1), 1) := by decide +kernel
theorem dX5_comparisonSign_8 : decode cX5_comparisonSign 8 = .ok (.istore_n 1, 1) := by decide +kernel
theorem dX5_comparisonSign_9 : decode cX5_comparisonSign 9 = .ok (.aload_n 0, 1) := by decide +kernel
theorem dX5_comparisonSign_10 : decode cX5_comparisonSign 10 = .ok (.getfield 30, 3) := by decide +kernel
theorem dX5_comparisonSign_13 : decode cX5_comparisonSign 13 = .ok (.bipush 60, 2) := by decide +kernel
theorem dX5_comparisonSign_15 : decode cX5_comparisonSign 15 = .ok (.invokevirtual 241, 3) := by decide +kernel
theorem dX5_comparisonSign_18 : decode cX5_comparisonSign 18 = .ok (.ifCond .eq 9, 3) := by decide +kernel
theorem dX5_comparisonSign_21 : decode cX5_comparisonSign 21 = .ok (.bipush (-9), 2) := by decide +kernel
theorem dX5_comparisonSign_23 : decode cX5_comparisonSign 23 = .ok (.istore_n 1, 1) := by decide +kernel
theorem dX5_comparisonSign_24 : decode cX5_comparisonSign 24 = .ok (.goto 45, 3) := by decide +kernel
theorem dX5_comparisonSign_27 : decode cX5_comparisonSign 27 = .ok (.aload_n 0, 1) := by decide +kernel
theorem dX5_comparisonSign_28 : decode cX5_comparisonSign 28 = .ok (.getfield 30, 3) := by decide +kernel
theorem dX5_comparisonSign_31 : decode cX5_comparisonSign 31 = .ok (.bipush 62, 2) := by decide +kernel
theorem dX5_comparisonSign_33 : decode cX5_comparisonSign 33 = .ok (.invokevirtual 241, 3) := by decide +kernel
theorem dX5_comparisonSign_36 : decode cX5_comparisonSign 36 = .ok (.ifCond .eq 9, 3) := by decide +kernel
theorem dX5_comparisonSign_39 : decode cX5_comparisonSign 39 = .ok (.bipush (-10), 2) := by decide +kernel
theorem dX5_comparisonSign_41 : decode cX5_comparisonSign 41 = .ok (.istore_n 1, 1) := by decide +kernel
theorem dX5_comparisonSign_42 : decode cX5_comparisonSign 42 = .ok (.goto 27, 3) := by decide +kernel
theorem dX5_comparisonSign_45 : decode cX5_comparisonSign 45 = .ok (.aload_n 0, 1) := by decide +kernel
theorem dX5_comparisonSign_46 : decode cX5_comparisonSign 46 = .ok (.getfield 30, 3) := by decide +kernel
theorem dX5_comparisonSign_49 : decode cX5_comparisonSign 49 = .ok (.bipush 61, 2) := by decide +kernel
theorem dX5_comparisonSign_51 : decode cX5_comparisonSign 51 = .ok (.invokevirtual 241, 3) := by decide +kernel
theorem dX5_comparisonSign_54 : decode cX5_comparisonSign 54 = .ok (.ifCond .eq 9, 3) := by decide +kernel
theorem dX5_comparisonSign_57 : decode cX5_comparisonSign 57 = .ok (.bipush (-11), 2) := by decide +kernel
theorem dX5_comparisonSign_59 : decode cX5_comparisonSign 59 = .ok (.istore_n 1, 1) := by decide +kernel
theorem dX5_comparisonSign_60 : decode cX5_comparisonSign 60 = .ok (.goto 9, 3) := by decide +kernel
theorem dX5_comparisonSign_63 : decode cX5_comparisonSign 63 = .ok (.aload_n 0, 1) := by decide +kernel
theorem dX5_comparisonSign_64 : decode cX5_comparisonSign 64 = .ok (.iconst 1, 1) := by decide +kernel
theorem dX5_comparisonSign_65 : decode cX5_comparisonSign 65 = .ok (.invokevirtual 132, 3) := by decide +kernel
theorem dX5_comparisonSign_68 : decode cX5_comparisonSign 68 = .ok (.pop, 1) := by decide +kernel
theorem dX5_comparisonSign_69 : decode cX5_comparisonSign 69 = .ok (.aload_n 0, 1) := by decide +kernel
theorem dX5_comparisonSign_70 : decode cX5_comparisonSign 70 = .ok (.getfield 30, 3) := by decide +kernel
theorem dX5_comparisonSign_73 : decode cX5_comparisonSign 73 = .ok (.invokevirtual 125, 3) := by decide +kernel
theorem dX5_comparisonSign_76 : decode cX5_comparisonSign 76 = .ok (.iload_n 1, 1) := by decide +kernel
theorem dX5_comparisonSign_77 : decode cX5_comparisonSign 77 = .ok (.ireturn, 1) := by decide +kernel
theorem dX5_enter_0 : decode cX5_enter 0 = .ok (.aload_n 0, 1) := by decide +kernel
theorem dX5_enter_1 : decode cX5_enter 1 = .ok (.getfield 22, 3) := by decide +kernel
theorem dX5_enter_4 : decode cX5_enter 4 = .ok (.bipush 8, 2) := by decide +kernel
theorem dX5_enter_6 : decode cX5_enter 6 = .ok (.if_icmp .lt 9, 3) := by decide +kernel
theorem dX5_enter_9 : decode cX5_enter 9 = .ok (.aload_n 0, 1) := by decide +kernel
theorem dX5_enter_10 : decode cX5_enter 10 = .ok (.iconst 5, 1) := by decide +kernel
theorem dX5_enter_11 : decode cX5_enter 11 = .ok (.invokevirtual 132, 3) := by decide +kernel
theorem dX5_enter_14 : decode cX5_enter 14 = .ok (.ireturn, 1) := by decide +kernel
theorem dX5_enter_15 : decode cX5_enter 15 = .ok (.aload_n 0, 1) := by decide +kernel
theorem dX5_enter_16 : decode cX5_enter 16 = .ok (.dup, 1) := by decide +kernel
theorem dX5_enter_17 : decode cX5_enter 17 = .ok (.getfield 22, 3) := by decide +kernel
theorem dX5_enter_20 : decode cX5_enter 20 = .ok (.iconst 1, 1) := by decide +kernel
theorem dX5_enter_21 : decode cX5_enter 21 = .ok (.iadd, 1) := by decide +kernel
theorem dX5_enter_22 : decode cX5_enter 22 = .ok (.putfield 22, 3) := by decide +kernel
theorem dX5_enter_25 : decode cX5_enter 25 = .ok (.iconst 1, 1) := by decide +kernel
theorem dX5_enter_26 : decode cX5_enter 26 = .ok (.ireturn, 1) := by decide +kernel
theorem dX5_leave_0 : decode cX5_leave 0 = .ok (.aload_n 0, 1) := by decide +kernel
theorem dX5_leave_1 : decode cX5_leave 1 = .ok (.dup, 1) := by decide +kernel
theorem dX5_leave_2 : decode cX5_leave 2 = .ok (.getfield 22, 3) := by decide +kernel
theorem dX5_leave_5 : decode cX5_leave 5 = .ok (.iconst 1, 1) := by decide +kernel
theorem dX5_leave_6 : decode cX5_leave 6 = .ok (.isub, 1) := by decide +kernel
theorem dX5_leave_7 : decode cX5_leave 7 = .ok (.putfield 22, 3) := by decide +kernel
theorem dX5_leave_10 : decode cX5_leave 10 = .ok (.iconst 1, 1) := by decide +kernel
theorem dX5_leave_11 : decode cX5_leave 11 = .ok (.ireturn, 1) := by decide +kernel
theorem dX5_passesSign_0 : decode cX5_passesSign 0 = .ok (.aload_n 0, 1) := by decide +kernel
theorem dX5_passesSign_1 : decode cX5_passesSign 1 = .ok (.getfield 30, 3) := by decide +kernel
theorem dX5_passesSign_4 : decode cX5_passesSign 4 = .ok (.invokevirtual 54, 3) := by decide +kernel
theorem dX5_passesSign_7 : decode cX5_passesSign 7 = .ok (.aload_n 0, 1) := by decide +kernel
theorem dX5_passesSign_8 : decode cX5_passesSign 8 = .ok (.getfield 30, 3) := by decide +kernel
theorem dX5_passesSign_11 : decode cX5_passesSign 11 = .ok (.iload_n 1, 1) := by decide +kernel
theorem dX5_passesSign_12 : decode cX5_passesSign 12 = .ok (.invokevirtual 241, 3) := by decide +kernel
theorem dX5_passesSign_15 : decode cX5_passesSign 15 = .ok (.ifCond .ne 5, 3) := by decide +kernel
theorem dX5_passesSign_18 : decode cX5_passesSign 18 = .ok (.iconst 0, 1) := by decide +kernel
theorem dX5_passesSign_19 : decode cX5_passesSign 19 = .ok (.ireturn, 1) := by decide +kernel
theorem dX5_passesSign_20 : decode cX5_passesSign 20 = .ok (.aload_n 0, 1) := by decide +kernel
theorem dX5_passesSign_21 : decode cX5_passesSign 21 = .ok (.getfield 30, 3) := by decide +kernel
theorem dX5_passesSign_24 : decode cX5_passesSign 24 = .ok (.invokevirtual 125, 3) := by decide +kernel
theorem dX5_passesSign_27 : decode cX5_passesSign 27 = .ok (.iconst 1, 1) := by decide +kernel
theorem dX5_passesSign_28 : decode cX5_passesSign 28 = .ok (.ireturn, 1) := by decide +kernel
theorem dX8_add_0 : decode cX8_add 0 = .ok (.aload_n 0, 1) := by decide +kernel
theorem dX8_add_1 : decode cX8_add 1 = .ok (.getfield 18, 3) := by decide +kernel
theorem dX8_add_4 : decode cX8_add 4 = .ok (.ifCond .lt 13, 3) := by decide +kernel
theorem dX8_add_7 : decode cX8_add 7 = .ok (.aload_n 0, 1) := by decide +kernel
theorem dX8_add_8 : decode cX8_add 8 = .ok (.getfield 18, 3) := by decide +kernel
theorem dX8_add_11 : decode cX8_add 11 = .ok (.sipush 1600, 3) := by decide +kernel
theorem dX8_add_14 : decode cX8_add 14 = .ok (.if_icmp .lt 5, 3) := by decide +kernel
theorem dX8_add_17 : decode cX8_add 17 = .ok (.iconst 0, 1) := by decide +kernel
theorem dX8_add_18 : decode cX8_add 18 = .ok (.ireturn, 1) := by decide +kernel
theorem dX8_add_19 : decode cX8_add 19 = .ok (.aload_n 0, 1) := by decide +kernel
theorem dX8_add_20 : decode cX8_add 20 = .ok (.getfield 9, 3) := by decide +kernel
theorem dX8_add_23 : decode cX8_add 23 = .ok (.aload_n 0, 1) := by decide +kernel
theorem dX8_add_24 : decode cX8_add 24 = .ok (.getfield 18, 3) := by decide +kernel
theorem dX8_add_27 : decode cX8_add 27 = .ok (.iload_n 1, 1) := by decide +kernel
theorem dX8_add_28 : decode cX8_add 28 = .ok (.iastore, 1) := by decide +kernel
theorem dX8_add_29 : decode cX8_add 29 = .ok (.aload_n 0, 1) := by decide +kernel
theorem dX8_add_30 : decode cX8_add 30 = .ok (.dup, 1) := by decide +kernel
theorem dX8_add_31 : decode cX8_add 31 = .ok (.getfield 18, 3) := by decide +kernel
theorem dX8_add_34 : decode cX8_add 34 = .ok (.iconst 1, 1) := by decide +kernel
theorem dX8_add_35 : decode cX8_add 35 = .ok (.iadd, 1) := by decide +kernel
theorem dX8_add_36 : decode cX8_add 36 = .ok (.putfield 18, 3) := by decide +kernel
theorem dX8_add_39 : decode cX8_add 39 = .ok (.iconst 1, 1) := by decide +kernel
theorem dX8_add_40 : decode cX8_add 40 = .ok (.ireturn, 1) := by decide +kernel
theorem dX9_addBar_0 : decode cX9_addBar 0 = .ok (.aload_n 0, 1) := by decide +kernel
theorem dX9_addBar_1 : decode cX9_addBar 1 = .ok (.getfield 9, 3) := by decide +kernel
theorem dX9_addBar_4 : decode cX9_addBar 4 = .ok (.bipush 7, 2) := by decide +kernel
theorem dX9_addBar_6 : decode cX9_addBar 6 = .ok (.iaload, 1) := by decide +kernel
theorem dX9_addBar_7 : decode cX9_addBar 7 = .ok (.istore 4, 2) := by decide +kernel
theorem dX9_addBar_9 : decode cX9_addBar 9 = .ok (.iload 4, 2) := by decide +kernel
theorem dX9_addBar_11 : decode cX9_addBar 11 = .ok (.ifCond .lt 10, 3) := by decide +kernel
theorem dX9_addBar_14 : decode cX9_addBar 14 = .ok (.iload 4, 2) := by decide +kernel
theorem dX9_addBar_16 : decode cX9_addBar 16 = .ok (.bipush 6, 2) := by decide +kernel
theorem dX9_addBar_18 : decode cX9_addBar 18 = .ok (.if_icmp .lt 5, 3) := by decide +kernel
theorem dX9_addBar_21 : decode cX9_addBar 21 = .ok (.iconst 0, 1) := by decide +kernel
theorem dX9_addBar_22 : decode cX9_addBar 22 = .ok (.ireturn, 1) := by decide +kernel
theorem dX9_addBar_23 : decode cX9_addBar 23 = .ok (.aload_n 0, 1) := by decide +kernel
theorem dX9_addBar_24 : decode cX9_addBar 24 = .ok (.getfield 44, 3) := by decide +kernel
theorem dX9_addBar_27 : decode cX9_addBar 27 = .ok (.iload 4, 2) := by decide +kernel
theorem dX9_addBar_29 : decode cX9_addBar 29 = .ok (.iload_n 1, 1) := by decide +kernel
theorem dX9_addBar_30 : decode cX9_addBar 30 = .ok (.iastore, 1) := by decide +kernel
theorem dX9_addBar_31 : decode cX9_addBar 31 = .ok (.aload_n 0, 1) := by decide +kernel
theorem dX9_addBar_32 : decode cX9_addBar 32 = .ok (.getfield 47, 3) := by decide +kernel
theorem dX9_addBar_35 : decode cX9_addBar 35 = .ok (.iload 4, 2) := by decide +kernel
theorem dX9_addBar_37 : decode cX9_addBar 37 = .ok (.iload_n 2, 1) := by decide +kernel
theorem dX9_addBar_38 : decode cX9_addBar 38 = .ok (.iastore, 1) := by decide +kernel
theorem dX9_addBar_39 : decode cX9_addBar 39 = .ok (.aload_n 0, 1) := by decide +kernel
theorem dX9_addBar_40 : decode cX9_addBar 40 = .ok (.getfield 50, 3) := by decide +kernel
theorem dX9_addBar_43 : decode cX9_addBar 43 = .ok (.iload 4, 2) := by decide +kernel
theorem dX9_addBar_45 : decode cX9_addBar 45 = .ok (.iload_n 3, 1) := by decide +kernel
theorem dX9_addBar_46 : decode cX9_addBar 46 = .ok (.iastore, 1) := by decide +kernel
theorem dX9_addBar_47 : decode cX9_addBar 47 = .ok (.aload_n 0, 1) := by decide +kernel
theorem dX9_addBar_48 : decode cX9_addBar 48 = .ok (.getfield 9, 3) := by decide +kernel
theorem dX9_addBar_51 : decode cX9_addBar 51 = .ok (.bipush 7, 2) := by decide +kernel
theorem dX9_addBar_53 : decode cX9_addBar 53 = .ok (.dup2, 1) := by decide +kernel
theorem dX9_addBar_54 : decode cX9_addBar 54 = .ok (.iaload, 1) := by decide +kernel
theorem dX9_addBar_55 : decode cX9_addBar 55 = .ok (.iconst 1, 1) := by decide +kernel
theorem dX9_addBar_56 : decode cX9_addBar 56 = .ok (.iadd, 1) := by decide +kernel
theorem dX9_addBar_57 : decode cX9_addBar 57 = .ok (.iastore, 1) := by decide +kernel
theorem dX9_addBar_58 : decode cX9_addBar 58 = .ok (.iconst 1, 1) := by decide +kernel
theorem dX9_addBar_59 : decode cX9_addBar 59 = .ok (.ireturn, 1) := by decide +kernel
