theorem dX12_opened_0 : decode cX12_opened 0 = .ok (.aload_n 0, 1) := by decide +kernel
theorem dX12_opened_1 : decode cX12_opened 1 = .ok (.iload_n 2, 1) := by decide +kernel
theorem dX12_opened_2 : decode cX12_opened 2 = .ok (.invokevirtual 513, 3) := by decide +kernel
theorem dX12_opened_5 : decode cX12_opened 5 = .ok (.istore_n 3, 1) := by decide +kernel
theorem dX12_opened_6 : decode cX12_opened 6 = .ok (.aload_n 0, 1) := by decide +kernel
theorem dX12_opened_7 : decode cX12_opened 7 = .ok (.getfield 86, 3) := by decide +kernel
theorem dX12_opened_10 : decode cX12_opened 10 = .ok (.aload_n 0, 1) := by decide +kernel
theorem dX12_opened_11 : decode cX12_opened 11 = .ok (.iload_n 2, 1) := by decide +kernel
theorem dX12_opened_12 : decode cX12_opened 12 = .ok (.invokevirtual 484, 3) := by decide +kernel
theorem dX12_opened_15 : decode cX12_opened 15 = .ok (.iaload, 1) := by decide +kernel
theorem dX12_opened_16 : decode cX12_opened 16 = .ok (.iload_n 1, 1) := by decide +kernel
theorem dX12_opened_17 : decode cX12_opened 17 = .ok (.if_icmp .ne 21, 3) := by decide +kernel
theorem dX12_opened_20 : decode cX12_opened 20 = .ok (.iload_n 3, 1) := by decide +kernel
theorem dX12_opened_21 : decode cX12_opened 21 = .ok (.iconst (-1), 1) := by decide +kernel
theorem dX12_opened_22 : decode cX12_opened 22 = .ok (.if_icmp .eq 16, 3) := by decide +kernel
theorem dX12_opened_25 : decode cX12_opened 25 = .ok (.aload_n 0, 1) := by decide +kernel
theorem dX12_opened_26 : decode cX12_opened 26 = .ok (.aload_n 0, 1) := by decide +kernel
theorem dX12_opened_27 : decode cX12_opened 27 = .ok (.iload_n 1, 1) := by decide +kernel
theorem dX12_opened_28 : decode cX12_opened 28 = .ok (.invokevirtual 520, 3) := by decide +kernel
theorem dX12_opened_31 : decode cX12_opened 31 = .ok (.iload_n 3, 1) := by decide +kernel
theorem dX12_opened_32 : decode cX12_opened 32 = .ok (.invokevirtual 523, 3) := by decide +kernel
theorem dX12_opened_35 : decode cX12_opened 35 = .ok (.ifCond .ne 5, 3) := by decide +kernel
theorem dX12_opened_38 : decode cX12_opened 38 = .ok (.iconst (-1), 1) := by decide +kernel
theorem dX12_opened_39 : decode cX12_opened 39 = .ok (.ireturn, 1) := by decide +kernel
theorem dX12_opened_40 : decode cX12_opened 40 = .ok (.aload_n 0, 1) := by decide +kernel
theorem dX12_opened_41 : decode cX12_opened 41 = .ok (.getfield 89, 3) := by decide +kernel
theorem dX12_opened_44 : decode cX12_opened 44 = .ok (.aload_n 0, 1) := by decide +kernel
theorem dX12_opened_45 : decode cX12_opened 45 = .ok (.iload_n 2, 1) := by decide +kernel
theorem dX12_opened_46 : decode cX12_opened 46 = .ok (.invokevirtual 484, 3) := by decide +kernel
theorem dX12_opened_49 : decode cX12_opened 49 = .ok (.dup2, 1) := by decide +kernel
theorem dX12_opened_50 : decode cX12_opened 50 = .ok (.iaload, 1) := by decide +kernel
theorem dX12_opened_51 : decode cX12_opened 51 = .ok (.iconst 1, 1) := by decide +kernel
theorem dX12_opened_52 : decode cX12_opened 52 = .ok (.isub, 1) := by decide +kernel
theorem dX12_opened_53 : decode cX12_opened 53 = .ok (.iastore, 1) := by decide +kernel
theorem dX12_opened_54 : decode cX12_opened 54 = .ok (.iload_n 3, 1) := by decide +kernel
theorem dX12_opened_55 : decode cX12_opened 55 = .ok (.ireturn, 1) := by decide +kernel
theorem dX12_closed_0 : decode cX12_closed 0 = .ok (.aload_n 0, 1) := by decide +kernel
theorem dX12_closed_1 : decode cX12_closed 1 = .ok (.getfield 86, 3) := by decide +kernel
theorem dX12_closed_4 : decode cX12_closed 4 = .ok (.aload_n 0, 1) := by decide +kernel
theorem dX12_closed_5 : decode cX12_closed 5 = .ok (.iload_n 2, 1) := by decide +kernel
theorem dX12_closed_6 : decode cX12_closed 6 = .ok (.invokevirtual 484, 3) := by decide +kernel
theorem dX12_closed_9 : decode cX12_closed 9 = .ok (.iaload, 1) := by decide +kernel
theorem dX12_closed_10 : decode cX12_closed 10 = .ok (.iload_n 1, 1) := by decide +kernel
theorem dX12_closed_11 : decode cX12_closed 11 = .ok (.if_icmp .ne 40, 3) := by decide +kernel
theorem dX12_closed_14 : decode cX12_closed 14 = .ok (.aload_n 0, 1) := by decide +kernel
theorem dX12_closed_15 : decode cX12_closed 15 = .ok (.aload_n 0, 1) := by decide +kernel
theorem dX12_closed_16 : decode cX12_closed 16 = .ok (.iload_n 1, 1) := by decide +kernel
theorem dX12_closed_17 : decode cX12_closed 17 = .ok (.invokevirtual 520, 3) := by decide +kernel
theorem dX12_closed_20 : decode cX12_closed 20 = .ok (.iload_n 3, 1) := by decide +kernel
theorem dX12_closed_21 : decode cX12_closed 21 = .ok (.invokevirtual 523, 3) := by decide +kernel
theorem dX12_closed_24 : decode cX12_closed 24 = .ok (.ifCond .eq 27, 3) := by decide +kernel
theorem dX12_closed_27 : decode cX12_closed 27 = .ok (.aload_n 0, 1) := by decide +kernel
theorem dX12_closed_28 : decode cX12_closed 28 = .ok (.iload_n 2, 1) := by decide +kernel
theorem dX12_closed_29 : decode cX12_closed 29 = .ok (.iload_n 3, 1) := by decide +kernel
theorem dX12_closed_30 : decode cX12_closed 30 = .ok (.invokevirtual 490, 3) := by decide +kernel
theorem dX12_closed_33 : decode cX12_closed 33 = .ok (.ifCond .ne 18, 3) := by decide +kernel
theorem dX12_closed_36 : decode cX12_closed 36 = .ok (.aload_n 0, 1) := by decide +kernel
theorem dX12_closed_37 : decode cX12_closed 37 = .ok (.getfield 89, 3) := by decide +kernel
theorem dX12_closed_40 : decode cX12_closed 40 = .ok (.aload_n 0, 1) := by decide +kernel
theorem dX12_closed_41 : decode cX12_closed 41 = .ok (.iload_n 2, 1) := by decide +kernel
theorem dX12_closed_42 : decode cX12_closed 42 = .ok (.invokevirtual 484, 3) := by decide +kernel
theorem dX12_closed_45 : decode cX12_closed 45 = .ok (.iaload, 1) := by decide +kernel
theorem dX12_closed_46 : decode cX12_closed 46 = .ok (.bipush 6, 2) := by decide +kernel
theorem dX12_closed_48 : decode cX12_closed 48 = .ok (.if_icmp .ne 5, 3) := by decide +kernel
theorem dX12_closed_51 : decode cX12_closed 51 = .ok (.iconst (-1), 1) := by decide +kernel
theorem dX12_closed_52 : decode cX12_closed 52 = .ok (.ireturn, 1) := by decide +kernel
theorem dX12_closed_53 : decode cX12_closed 53 = .ok (.aload_n 0, 1) := by decide +kernel
theorem dX12_closed_54 : decode cX12_closed 54 = .ok (.getfield 92, 3) := by decide +kernel
theorem dX12_closed_57 : decode cX12_closed 57 = .ok (.bipush 10, 2) := by decide +kernel
theorem dX12_closed_59 : decode cX12_closed 59 = .ok (.aload_n 0, 1) := by decide +kernel
theorem dX12_closed_60 : decode cX12_closed 60 = .ok (.iload_n 2, 1) := by decide +kernel
theorem dX12_closed_61 : decode cX12_closed 61 = .ok (.invokevirtual 484, 3) := by decide +kernel
theorem dX12_closed_64 : decode cX12_closed 64 = .ok (.imul, 1) := by decide +kernel
theorem dX12_closed_65 : decode cX12_closed 65 = .ok (.aload_n 0, 1) := by decide +kernel
theorem dX12_closed_66 : decode cX12_closed 66 = .ok (.getfield 89, 3) := by decide +kernel
theorem dX12_closed_69 : decode cX12_closed 69 = .ok (.aload_n 0, 1) := by decide +kernel
theorem dX12_closed_70 : decode cX12_closed 70 = .ok (.iload_n 2, 1) := by decide +kernel
theorem dX12_closed_71 : decode cX12_closed 71 = .ok (.invokevirtual 484, 3) := by decide +kernel
theorem dX12_closed_74 : decode cX12_closed 74 = .ok (.iaload, 1) := by decide +kernel
theorem dX12_closed_75 : decode cX12_closed 75 = .ok (.iadd, 1) := by decide +kernel
theorem dX12_closed_76 : decode cX12_closed 76 = .ok (.iload_n 3, 1) := by decide +kernel
theorem dX12_closed_77 : decode cX12_closed 77 = .ok (.iastore, 1) := by decide +kernel
theorem dX12_closed_78 : decode cX12_closed 78 = .ok (.aload_n 0, 1) := by decide +kernel
theorem dX12_closed_79 : decode cX12_closed 79 = .ok (.getfield 89, 3) := by decide +kernel
theorem dX12_closed_82 : decode cX12_closed 82 = .ok (.aload_n 0, 1) := by decide +kernel
theorem dX12_closed_83 : decode cX12_closed 83 = .ok (.iload_n 2, 1) := by decide +kernel
theorem dX12_closed_84 : decode cX12_closed 84 = .ok (.invokevirtual 484, 3) := by decide +kernel
theorem dX12_closed_87 : decode cX12_closed 87 = .ok (.dup2, 1) := by decide +kernel
theorem dX12_closed_88 : decode cX12_closed 88 = .ok (.iaload, 1) := by decide +kernel
theorem dX12_closed_89 : decode cX12_closed 89 = .ok (.iconst 1, 1) := by decide +kernel
theorem dX12_closed_90 : decode cX12_closed 90 = .ok (.iadd, 1) := by decide +kernel
theorem dX12_closed_91 : decode cX12_closed 91 = .ok (.iastore, 1) := by decide +kernel
theorem dX12_closed_92 : decode cX12_closed 92 = .ok (.aload_n 0, 1) := by decide +kernel
theorem dX12_closed_93 : decode cX12_closed 93 = .ok (.getfield 89, 3) := by decide +kernel
theorem dX12_closed_96 : decode cX12_closed 96 = .ok (.aload_n 0, 1) := by decide +kernel
theorem dX12_closed_97 : decode cX12_closed 97 = .ok (.iload_n 2, 1) := by decide +kernel
theorem dX12_closed_98 : decode cX12_closed 98 = .ok (.invokevirtual 484, 3) := by decide +kernel
theorem dX12_closed_101 : decode cX12_closed 101 = .ok (.iaload, 1) := by decide +kernel
theorem dX12_closed_102 : decode cX12_closed 102 = .ok (.ireturn, 1) := by decide +kernel
theorem dX12_open_0 : decode cX12_open 0 = .ok (.aload_n 0, 1) := by decide +kernel
theorem dX12_open_1 : decode cX12_open 1 = .ok (.iload_n 1, 1) := by decide +kernel
theorem dX12_open_2 : decode cX12_open 2 = .ok (.invokevirtual 539, 3) := by decide +kernel
theorem dX12_open_5 : decode cX12_open 5 = .ok (.ifCond .eq 20, 3) := by decide +kernel
theorem dX12_open_8 : decode cX12_open 8 = .ok (.aload_n 0, 1) := by decide +kernel
theorem dX12_open_9 : decode cX12_open 9 = .ok (.iload_n 2, 1) := by decide +kernel
theorem dX12_open_10 : decode cX12_open 10 = .ok (.invokevirtual 510, 3) := by decide +kernel
theorem dX12_open_13 : decode cX12_open 13 = .ok (.ifCond .eq 12, 3) := by decide +kernel
theorem dX12_open_16 : decode cX12_open 16 = .ok (.aload_n 0, 1) := by decide +kernel
theorem dX12_open_17 : decode cX12_open 17 = .ok (.iload_n 1, 1) := by decide +kernel
theorem dX12_open_18 : decode cX12_open 18 = .ok (.iload_n 2, 1) := by decide +kernel
theorem dX12_open_19 : decode cX12_open 19 = .ok (.invokevirtual 545, 3) := by decide +kernel
theorem dX12_open_22 : decode cX12_open 22 = .ok (.goto 4, 3) := by decide +kernel
theorem dX12_open_25 : decode cX12_open 25 = .ok (.iconst (-1), 1) := by decide +kernel
theorem dX12_open_26 : decode cX12_open 26 = .ok (.istore_n 3, 1) := by decide +kernel
theorem dX12_open_27 : decode cX12_open 27 = .ok (.iload_n 3, 1) := by decide +kernel
theorem dX12_open_28 : decode cX12_open 28 = .ok (.iconst (-1), 1) := by decide +kernel
theorem dX12_open_29 : decode cX12_open 29 = .ok (.if_icmp .ne 11, 3) := by decide +kernel
theorem dX12_open_32 : decode cX12_open 32 = .ok (.aload_n 0, 1) := by decide +kernel
theorem dX12_open_33 : decode cX12_open 33 = .ok (.iconst 2, 1) := by decide +kernel
theorem dX12_open_34 : decode cX12_open 34 = .ok (.invokevirtual 271, 3) := by decide +kernel
theorem dX12_open_37 : decode cX12_open 37 = .ok (.goto 4, 3) := by decide +kernel
theorem dX12_open_40 : decode cX12_open 40 = .ok (.iload_n 3, 1) := by decide +kernel
theorem dX12_open_41 : decode cX12_open 41 = .ok (.ireturn, 1) := by decide +kernel
theorem dX12_shut_0 : decode cX12_shut 0 = .ok (.aload_n 0, 1) := by decide +kernel
theorem dX12_shut_1 : decode cX12_shut 1 = .ok (.iload_n 1, 1) := by decide +kernel
theorem dX12_shut_2 : decode cX12_shut 2 = .ok (.invokevirtual 539, 3) := by decide +kernel
theorem dX12_shut_5 : decode cX12_shut 5 = .ok (.ifCond .eq 29, 3) := by decide +kernel
theorem dX12_shut_8 : decode cX12_shut 8 = .ok (.aload_n 0, 1) := by decide +kernel
theorem dX12_shut_9 : decode cX12_shut 9 = .ok (.iload_n 2, 1) := by decide +kernel
theorem dX12_shut_10 : decode cX12_shut 10 = .ok (.invokevirtual 510, 3) := by decide +kernel
theorem dX12_shut_13 : decode cX12_shut 13 = .ok (.ifCond .eq 21, 3) := by decide +kernel
theorem dX12_shut_16 : decode cX12_shut 16 = .ok (.aload_n 0, 1) := by decide +kernel
theorem dX12_shut_17 : decode cX12_shut 17 = .ok (.iload_n 3, 1) := by decide +kernel
theorem dX12_shut_18 : decode cX12_shut 18 = .ok (.invokevirtual 507, 3) := by decide +kernel
theorem dX12_shut_21 : decode cX12_shut 21 = .ok (.ifCond .eq 13, 3) := by decide +kernel
theorem dX12_shut_24 : decode cX12_shut 24 = .ok (.aload_n 0, 1) := by decide +kernel
theorem dX12_shut_25 : decode cX12_shut 25 = .ok (.iload_n 1, 1) := by decide +kernel
theorem dX12_shut_26 : decode cX12_shut 26 = .ok (.iload_n 2, 1) := by decide +kernel
theorem dX12_shut_27 : decode cX12_shut 27 = .ok (.iload_n 3, 1) := by decide +kernel
theorem dX12_shut_28 : decode cX12_shut 28 = .ok (.invokevirtual 548, 3) := by decide +kernel
theorem dX12_shut_31 : decode cX12_shut 31 = .ok (.goto 4, 3) := by decide +kernel
theorem dX12_shut_34 : decode cX12_shut 34 = .ok (.iconst (-1), 1) := by decide +kernel
theorem dX12_shut_35 : decode cX12_shut 35 = .ok (.istore 4, 2) := by decide +kernel
theorem dX12_shut_37 : decode cX12_shut 37 = .ok (.iload 4, 2) := by decide +kernel
theorem dX12_shut_39 : decode cX12_shut 39 = .ok (.iconst (-1), 1) := by decide +kernel
theorem dX12_shut_40 : decode cX12_shut 40 = .ok (.if_icmp .ne 11, 3) := by decide +kernel
theorem dX12_shut_43 : decode cX12_shut 43 = .ok (.aload_n 0, 1) := by decide +kernel
theorem dX12_shut_44 : decode cX12_shut 44 = .ok (.iconst 2, 1) := by decide +kernel
theorem dX12_shut_45 : decode cX12_shut 45 = .ok (.invokevirtual 271, 3) := by decide +kernel
theorem dX12_shut_48 : decode cX12_shut 48 = .ok (.goto 5, 3) := by decide +kernel
theorem dX12_shut_51 : decode cX12_shut 51 = .ok (.iload 4, 2) := by decide +kernel
theorem dX12_shut_53 : decode cX12_shut 53 = .ok (.ireturn, 1) := by decide +kernel
theorem dX12_lend_0 : decode cX12_lend 0 = .ok (.aload_n 0, 1) := by decide +kernel
theorem dX12_lend_1 : decode cX12_lend 1 = .ok (.iload_n 1, 1) := by decide +kernel
theorem dX12_lend_2 : decode cX12_lend 2 = .ok (.invokevirtual 539, 3) := by decide +kernel
theorem dX12_lend_5 : decode cX12_lend 5 = .ok (.ifCond .eq 28, 3) := by decide +kernel
theorem dX12_lend_8 : decode cX12_lend 8 = .ok (.aload_n 0, 1) := by decide +kernel
theorem dX12_lend_9 : decode cX12_lend 9 = .ok (.iload_n 2, 1) := by decide +kernel
theorem dX12_lend_10 : decode cX12_lend 10 = .ok (.invokevirtual 510, 3) := by decide +kernel
theorem dX12_lend_13 : decode cX12_lend 13 = .ok (.ifCond .eq 20, 3) := by decide +kernel
theorem dX12_lend_16 : decode cX12_lend 16 = .ok (.aload_n 0, 1) := by decide +kernel
theorem dX12_lend_17 : decode cX12_lend 17 = .ok (.iload_n 3, 1) := by decide +kernel
theorem dX12_lend_18 : decode cX12_lend 18 = .ok (.invokevirtual 539, 3) := by decide +kernel
theorem dX12_lend_21 : decode cX12_lend 21 = .ok (.ifCond .eq 12, 3) := by decide +kernel
theorem dX12_lend_24 : decode cX12_lend 24 = .ok (.iload_n 1, 1) := by decide +kernel
theorem dX12_lend_25 : decode cX12_lend 25 = .ok (.iload_n 3, 1) := by decide +kernel
theorem dX12_lend_26 : decode cX12_lend 26 = .ok (.if_icmp .eq 7, 3) := by decide +kernel
theorem dX12_lend_29 : decode cX12_lend 29 = .ok (.iconst 1, 1) := by decide +kernel
theorem dX12_lend_30 : decode cX12_lend 30 = .ok (.goto 4, 3) := by decide +kernel
theorem dX12_lend_33 : decode cX12_lend 33 = .ok (.iconst 0, 1) := by decide +kernel
theorem dX12_lend_34 : decode cX12_lend 34 = .ok (.istore 4, 2) := by decide +kernel
theorem dX12_lend_36 : decode cX12_lend 36 = .ok (.iload 4, 2) := by decide +kernel
theorem dX12_lend_38 : decode cX12_lend 38 = .ok (.ifCond .eq 30, 3) := by decide +kernel
theorem dX12_lend_41 : decode cX12_lend 41 = .ok (.aload_n 0, 1) := by decide +kernel
theorem dX12_lend_42 : decode cX12_lend 42 = .ok (.getfield 86, 3) := by decide +kernel
theorem dX12_lend_45 : decode cX12_lend 45 = .ok (.aload_n 0, 1) := by decide +kernel
theorem dX12_lend_46 : decode cX12_lend 46 = .ok (.iload_n 2, 1) := by decide +kernel
theorem dX12_lend_47 : decode cX12_lend 47 = .ok (.invokevirtual 484, 3) := by decide +kernel
theorem dX12_lend_50 : decode cX12_lend 50 = .ok (.iaload, 1) := by decide +kernel
theorem dX12_lend_51 : decode cX12_lend 51 = .ok (.iload_n 1, 1) := by decide +kernel
theorem dX12_lend_52 : decode cX12_lend 52 = .ok (.if_icmp .ne 16, 3) := by decide +kernel
theorem dX12_lend_55 : decode cX12_lend 55 = .ok (.aload_n 0, 1) := by decide +kernel
theorem dX12_lend_56 : decode cX12_lend 56 = .ok (.iload_n 1, 1) := by decide +kernel
theorem dX12_lend_57 : decode cX12_lend 57 = .ok (.invokevirtual 520, 3) := by decide +kernel
theorem dX12_lend_60 : decode cX12_lend 60 = .ok (.aload_n 0, 1) := by decide +kernel
theorem dX12_lend_61 : decode cX12_lend 61 = .ok (.iload_n 3, 1) := by decide +kernel
theorem dX12_lend_62 : decode cX12_lend 62 = .ok (.invokevirtual 520, 3) := by decide +kernel
theorem dX12_lend_65 : decode cX12_lend 65 = .ok (.if_icmp .eq 17, 3) := by decide +kernel
theorem dX12_lend_68 : decode cX12_lend 68 = .ok (.aload_n 0, 1) := by decide +kernel
theorem dX12_lend_69 : decode cX12_lend 69 = .ok (.iconst 3, 1) := by decide +kernel
theorem dX12_lend_70 : decode cX12_lend 70 = .ok (.invokevirtual 271, 3) := by decide +kernel
theorem dX12_lend_73 : decode cX12_lend 73 = .ok (.ifCond .lt 7, 3) := by decide +kernel
theorem dX12_lend_80 : decode cX12_lend 80 = .ok (.iconst 0, 1) := by decide +kernel
theorem dX12_lend_81 : decode cX12_lend 81 = .ok (.ireturn, 1) := by decide +kernel
theorem dX12_lend_82 : decode cX12_lend 82 = .ok (.aload_n 0, 1) := by decide +kernel
theorem dX12_lend_83 : decode cX12_lend 83 = .ok (.getfield 86, 3) := by decide +kernel
theorem dX12_lend_86 : decode cX12_lend 86 = .ok (.aload_n 0, 1) := by decide +kernel
theorem dX12_lend_87 : decode cX12_lend 87 = .ok (.iload_n 2, 1) := by decide +kernel
theorem dX12_lend_88 : decode cX12_lend 88 = .ok (.invokevirtual 484, 3) := by decide +kernel
theorem dX12_lend_91 : decode cX12_lend 91 = .ok (.iload_n 3, 1) := by decide +kernel
theorem dX12_lend_92 : decode cX12_lend 92 = .ok (.iastore, 1) := by decide +kernel
theorem dX12_lend_93 : decode cX12_lend 93 = .ok (.iconst 1, 1) := by decide +kernel
theorem dX12_lend_94 : decode cX12_lend 94 = .ok (.ireturn, 1) := by decide +kernel
theorem dX12_isOpenBox_0 : decode cX12_isOpenBox 0 = .ok (.aload_n 0, 1) := by decide +kernel
theorem dX12_isOpenBox_1 : decode cX12_isOpenBox 1 = .ok (.iload_n 2, 1) := by decide +kernel
theorem dX12_isOpenBox_2 : decode cX12_isOpenBox 2 = .ok (.invokevirtual 507, 3) := by decide +kernel
theorem dX12_isOpenBox_5 : decode cX12_isOpenBox 5 = .ok (.ifCond .eq 46, 3) := by decide +kernel
theorem dX12_isOpenBox_8 : decode cX12_isOpenBox 8 = .ok (.aload_n 0, 1) := by decide +kernel
theorem dX12_isOpenBox_9 : decode cX12_isOpenBox 9 = .ok (.getfield 70, 3) := by decide +kernel
theorem dX12_isOpenBox_12 : decode cX12_isOpenBox 12 = .ok (.aload_n 0, 1) := by decide +kernel
theorem dX12_isOpenBox_13 : decode cX12_isOpenBox 13 = .ok (.iload_n 2, 1) := by decide +kernel
theorem dX12_isOpenBox_14 : decode cX12_isOpenBox 14 = .ok (.invokevirtual 487, 3) := by decide +kernel
theorem dX12_isOpenBox_17 : decode cX12_isOpenBox 17 = .ok (.baload, 1) := by decide +kernel
theorem dX12_isOpenBox_18 : decode cX12_isOpenBox 18 = .ok (.ifCond .eq 33, 3) := by decide +kernel
theorem dX12_isOpenBox_21 : decode cX12_isOpenBox 21 = .ok (.aload_n 0, 1) := by decide +kernel
theorem dX12_isOpenBox_22 : decode cX12_isOpenBox 22 = .ok (.getfield 64, 3) := by decide +kernel
theorem dX12_isOpenBox_25 : decode cX12_isOpenBox 25 = .ok (.aload_n 0, 1) := by decide +kernel
theorem dX12_isOpenBox_26 : decode cX12_isOpenBox 26 = .ok (.iload_n 2, 1) := by decide +kernel
theorem dX12_isOpenBox_27 : decode cX12_isOpenBox 27 = .ok (.invokevirtual 487, 3) := by decide +kernel
theorem dX12_isOpenBox_30 : decode cX12_isOpenBox 30 = .ok (.iaload, 1) := by decide +kernel
theorem dX12_isOpenBox_31 : decode cX12_isOpenBox 31 = .ok (.aload_n 0, 1) := by decide +kernel
theorem dX12_isOpenBox_32 : decode cX12_isOpenBox 32 = .ok (.iload_n 1, 1) := by decide +kernel
theorem dX12_isOpenBox_33 : decode cX12_isOpenBox 33 = .ok (.invokevirtual 520, 3) := by decide +kernel
theorem dX12_isOpenBox_36 : decode cX12_isOpenBox 36 = .ok (.if_icmp .ne 15, 3) := by decide +kernel
theorem dX12_isOpenBox_39 : decode cX12_isOpenBox 39 = .ok (.aload_n 0, 1) := by decide +kernel
theorem dX12_isOpenBox_40 : decode cX12_isOpenBox 40 = .ok (.iload_n 2, 1) := by decide +kernel
theorem dX12_isOpenBox_41 : decode cX12_isOpenBox 41 = .ok (.invokevirtual 493, 3) := by decide +kernel
theorem dX12_isOpenBox_44 : decode cX12_isOpenBox 44 = .ok (.ifCond .ne 7, 3) := by decide +kernel
theorem dX12_isOpenBox_47 : decode cX12_isOpenBox 47 = .ok (.iconst 1, 1) := by decide +kernel
theorem dX12_isOpenBox_48 : decode cX12_isOpenBox 48 = .ok (.goto 4, 3) := by decide +kernel
theorem dX12_isOpenBox_51 : decode cX12_isOpenBox 51 = .ok (.iconst 0, 1) := by decide +kernel
theorem dX12_isOpenBox_52 : decode cX12_isOpenBox 52 = .ok (.ireturn, 1) := by decide +kernel
theorem dX12_take_0 : decode cX12_take 0 = .ok (.aload_n 0, 1) := by decide +kernel
theorem dX12_take_1 : decode cX12_take 1 = .ok (.iload_n 1, 1) := by decide +kernel
theorem dX12_take_2 : decode cX12_take 2 = .ok (.invokevirtual 539, 3) := by decide +kernel
theorem dX12_take_5 : decode cX12_take 5 = .ok (.ifCond .eq 11, 3) := by decide +kernel
theorem dX12_take_8 : decode cX12_take 8 = .ok (.aload_n 0, 1) := by decide +kernel
theorem dX12_take_9 : decode cX12_take 9 = .ok (.iload_n 2, 1) := by decide +kernel
theorem dX12_take_10 : decode cX12_take 10 = .ok (.invokevirtual 510, 3) := by decide +kernel
theorem dX12_take_13 : decode cX12_take 13 = .ok (.ifCond .ne 17, 3) := by decide +kernel
theorem dX12_take_16 : decode cX12_take 16 = .ok (.aload_n 0, 1) := by decide +kernel
theorem dX12_take_17 : decode cX12_take 17 = .ok (.iconst 3, 1) := by decide +kernel
theorem dX12_take_18 : decode cX12_take 18 = .ok (.invokevirtual 271, 3) := by decide +kernel
theorem dX12_take_21 : decode cX12_take 21 = .ok (.ifCond .lt 7, 3) := by decide +kernel
theorem dX12_take_28 : decode cX12_take 28 = .ok (.iconst 0, 1) := by decide +kernel
theorem dX12_take_29 : decode cX12_take 29 = .ok (.ireturn, 1) := by decide +kernel
theorem dX12_take_30 : decode cX12_take 30 = .ok (.aload_n 0, 1) := by decide +kernel
theorem dX12_take_31 : decode cX12_take 31 = .ok (.getfield 86, 3) := by decide +kernel
theorem dX12_take_34 : decode cX12_take 34 = .ok (.aload_n 0, 1) := by decide +kernel
theorem dX12_take_35 : decode cX12_take 35 = .ok (.iload_n 2, 1) := by decide +kernel
theorem dX12_take_36 : decode cX12_take 36 = .ok (.invokevirtual 484, 3) := by decide +kernel
theorem dX12_take_39 : decode cX12_take 39 = .ok (.iaload, 1) := by decide +kernel
theorem dX12_take_40 : decode cX12_take 40 = .ok (.istore_n 3, 1) := by decide +kernel
theorem dX12_take_41 : decode cX12_take 41 = .ok (.iload_n 3, 1) := by decide +kernel
theorem dX12_take_42 : decode cX12_take 42 = .ok (.bipush 10, 2) := by decide +kernel
theorem dX12_take_44 : decode cX12_take 44 = .ok (.aload_n 0, 1) := by decide +kernel
theorem dX12_take_45 : decode cX12_take 45 = .ok (.iload_n 1, 1) := by decide +kernel
theorem dX12_take_46 : decode cX12_take 46 = .ok (.invokevirtual 520, 3) := by decide +kernel
theorem dX12_take_49 : decode cX12_take 49 = .ok (.iadd, 1) := by decide +kernel
theorem dX12_take_50 : decode cX12_take 50 = .ok (.if_icmp .eq 27, 3) := by decide +kernel
theorem dX12_take_53 : decode cX12_take 53 = .ok (.iload_n 3, 1) := by decide +kernel
theorem dX12_take_54 : decode cX12_take 54 = .ok (.bipush 20, 2) := by decide +kernel
theorem dX12_take_56 : decode cX12_take 56 = .ok (.if_icmp .lt 25, 3) := by decide +kernel
theorem dX12_take_59 : decode cX12_take 59 = .ok (.iload_n 3, 1) := by decide +kernel
theorem dX12_take_60 : decode cX12_take 60 = .ok (.bipush 40, 2) := by decide +kernel
theorem dX12_take_62 : decode cX12_take 62 = .ok (.if_icmp .ge 19, 3) := by decide +kernel
theorem dX12_take_65 : decode cX12_take 65 = .ok (.aload_n 0, 1) := by decide +kernel
theorem dX12_take_66 : decode cX12_take 66 = .ok (.iload_n 1, 1) := by decide +kernel
theorem dX12_take_67 : decode cX12_take 67 = .ok (.iload_n 3, 1) := by decide +kernel
theorem dX12_take_68 : decode cX12_take 68 = .ok (.bipush 20, 2) := by decide +kernel
theorem dX12_take_70 : decode cX12_take 70 = .ok (.isub, 1) := by decide +kernel
theorem dX12_take_71 : decode cX12_take 71 = .ok (.invokevirtual 552, 3) := by decide +kernel
theorem dX12_take_74 : decode cX12_take 74 = .ok (.ifCond .eq 7, 3) := by decide +kernel
theorem dX12_take_77 : decode cX12_take 77 = .ok (.iconst 1, 1) := by decide +kernel
theorem dX12_take_78 : decode cX12_take 78 = .ok (.goto 4, 3) := by decide +kernel
theorem dX12_take_81 : decode cX12_take 81 = .ok (.iconst 0, 1) := by decide +kernel
theorem dX12_take_82 : decode cX12_take 82 = .ok (.istore 4, 2) := by decide +kernel
theorem dX12_take_84 : decode cX12_take 84 = .ok (.iload 4, 2) := by decide +kernel
theorem dX12_take_86 : decode cX12_take 86 = .ok (.ifCond .ne 17, 3) := by decide +kernel
theorem dX12_take_89 : decode cX12_take 89 = .ok (.aload_n 0, 1) := by decide +kernel
theorem dX12_take_90 : decode cX12_take 90 = .ok (.iconst 3, 1) := by decide +kernel
theorem dX12_take_91 : decode cX12_take 91 = .ok (.invokevirtual 271, 3) := by decide +kernel
theorem dX12_take_94 : decode cX12_take 94 = .ok (.ifCond .lt 7, 3) := by decide +kernel
theorem dX12_take_101 : decode cX12_take 101 = .ok (.iconst 0, 1) := by decide +kernel
theorem dX12_take_102 : decode cX12_take 102 = .ok (.ireturn, 1) := by decide +kernel
theorem dX12_take_103 : decode cX12_take 103 = .ok (.aload_n 0, 1) := by decide +kernel
theorem dX12_take_104 : decode cX12_take 104 = .ok (.getfield 86, 3) := by decide +kernel
theorem dX12_take_107 : decode cX12_take 107 = .ok (.aload_n 0, 1) := by decide +kernel
theorem dX12_take_108 : decode cX12_take 108 = .ok (.iload_n 2, 1) := by decide +kernel
theorem dX12_take_109 : decode cX12_take 109 = .ok (.invokevirtual 484, 3) := by decide +kernel
theorem dX12_take_112 : decode cX12_take 112 = .ok (.iload_n 1, 1) := by decide +kernel
theorem dX12_take_113 : decode cX12_take 113 = .ok (.iastore, 1) := by decide +kernel
theorem dX12_take_114 : decode cX12_take 114 = .ok (.iconst 1, 1) := by decide +kernel
theorem dX12_take_115 : decode cX12_take 115 = .ok (.ireturn, 1) := by decide +kernel
theorem dX12_lay_0 : decode cX12_lay 0 = .ok (.aload_n 0, 1) := by decide +kernel
theorem dX12_lay_1 : decode cX12_lay 1 = .ok (.iload_n 1, 1) := by decide +kernel
theorem dX12_lay_2 : decode cX12_lay 2 = .ok (.invokevirtual 539, 3) := by decide +kernel
theorem dX12_lay_5 : decode cX12_lay 5 = .ok (.ifCond .eq 43, 3) := by decide +kernel
theorem dX12_lay_8 : decode cX12_lay 8 = .ok (.aload_n 0, 1) := by decide +kernel
theorem dX12_lay_9 : decode cX12_lay 9 = .ok (.iload_n 2, 1) := by decide +kernel
theorem dX12_lay_10 : decode cX12_lay 10 = .ok (.invokevirtual 510, 3) := by decide +kernel
theorem dX12_lay_13 : decode cX12_lay 13 = .ok (.ifCond .eq 35, 3) := by decide +kernel
theorem dX12_lay_16 : decode cX12_lay 16 = .ok (.aload_n 0, 1) := by decide +kernel
theorem dX12_lay_17 : decode cX12_lay 17 = .ok (.getfield 86, 3) := by decide +kernel
theorem dX12_lay_20 : decode cX12_lay 20 = .ok (.aload_n 0, 1) := by decide +kernel
theorem dX12_lay_21 : decode cX12_lay 21 = .ok (.iload_n 2, 1) := by decide +kernel
theorem dX12_lay_22 : decode cX12_lay 22 = .ok (.invokevirtual 484, 3) := by decide +kernel
theorem dX12_lay_25 : decode cX12_lay 25 = .ok (.iaload, 1) := by decide +kernel
theorem dX12_lay_26 : decode cX12_lay 26 = .ok (.iload_n 1, 1) := by decide +kernel
theorem dX12_lay_27 : decode cX12_lay 27 = .ok (.if_icmp .ne 21, 3) := by decide +kernel
theorem dX12_lay_30 : decode cX12_lay 30 = .ok (.iload_n 3, 1) := by decide +kernel
theorem dX12_lay_31 : decode cX12_lay 31 = .ok (.iconst (-1), 1) := by decide +kernel
theorem dX12_lay_32 : decode cX12_lay 32 = .ok (.if_icmp .eq 12, 3) := by decide +kernel
theorem dX12_lay_35 : decode cX12_lay 35 = .ok (.aload_n 0, 1) := by decide +kernel
theorem dX12_lay_36 : decode cX12_lay 36 = .ok (.iload_n 1, 1) := by decide +kernel
theorem dX12_lay_37 : decode cX12_lay 37 = .ok (.iload_n 3, 1) := by decide +kernel
theorem dX12_lay_38 : decode cX12_lay 38 = .ok (.invokevirtual 552, 3) := by decide +kernel
theorem dX12_lay_41 : decode cX12_lay 41 = .ok (.ifCond .eq 7, 3) := by decide +kernel
theorem dX12_lay_44 : decode cX12_lay 44 = .ok (.iconst 1, 1) := by decide +kernel
theorem dX12_lay_45 : decode cX12_lay 45 = .ok (.goto 4, 3) := by decide +kernel
theorem dX12_lay_48 : decode cX12_lay 48 = .ok (.iconst 0, 1) := by decide +kernel
theorem dX12_lay_49 : decode cX12_lay 49 = .ok (.istore 4, 2) := by decide +kernel
theorem dX12_lay_51 : decode cX12_lay 51 = .ok (.iload 4, 2) := by decide +kernel
theorem dX12_lay_53 : decode cX12_lay 53 = .ok (.ifCond .ne 17, 3) := by decide +kernel
theorem dX12_lay_56 : decode cX12_lay 56 = .ok (.aload_n 0, 1) := by decide +kernel
theorem dX12_lay_57 : decode cX12_lay 57 = .ok (.iconst 3, 1) := by decide +kernel
theorem dX12_lay_58 : decode cX12_lay 58 = .ok (.invokevirtual 271, 3) := by decide +kernel
theorem dX12_lay_61 : decode cX12_lay 61 = .ok (.ifCond .lt 7, 3) := by decide +kernel
theorem dX12_lay_68 : decode cX12_lay 68 = .ok (.iconst 0, 1) := by decide +kernel
theorem dX12_lay_69 : decode cX12_lay 69 = .ok (.ireturn, 1) := by decide +kernel
theorem dX12_lay_70 : decode cX12_lay 70 = .ok (.aload_n 0, 1) := by decide +kernel
theorem dX12_lay_71 : decode cX12_lay 71 = .ok (.getfield 86, 3) := by decide +kernel
theorem dX12_lay_74 : decode cX12_lay 74 = .ok (.aload_n 0, 1) := by decide +kernel
theorem dX12_lay_75 : decode cX12_lay 75 = .ok (.iload_n 2, 1) := by decide +kernel
theorem dX12_lay_76 : decode cX12_lay 76 = .ok (.invokevirtual 484, 3) := by decide +kernel
theorem dX12_lay_79 : decode cX12_lay 79 = .ok (.iload_n 3, 1) := by decide +kernel
theorem dX12_lay_80 : decode cX12_lay 80 = .ok (.iconst (-1), 1) := by decide +kernel
theorem dX12_lay_81 : decode cX12_lay 81 = .ok (.if_icmp .ne 14, 3) := by decide +kernel
theorem dX12_lay_84 : decode cX12_lay 84 = .ok (.bipush 10, 2) := by decide +kernel
theorem dX12_lay_86 : decode cX12_lay 86 = .ok (.aload_n 0, 1) := by decide +kernel
theorem dX12_lay_87 : decode cX12_lay 87 = .ok (.iload_n 1, 1) := by decide +kernel
theorem dX12_lay_88 : decode cX12_lay 88 = .ok (.invokevirtual 520, 3) := by decide +kernel
theorem dX12_lay_91 : decode cX12_lay 91 = .ok (.iadd, 1) := by decide +kernel
theorem dX12_lay_92 : decode cX12_lay 92 = .ok (.goto 7, 3) := by decide +kernel
theorem dX12_lay_95 : decode cX12_lay 95 = .ok (.bipush 20, 2) := by decide +kernel
theorem dX12_lay_97 : decode cX12_lay 97 = .ok (.iload_n 3, 1) := by decide +kernel
theorem dX12_lay_98 : decode cX12_lay 98 = .ok (.iadd, 1) := by decide +kernel
theorem dX12_lay_99 : decode cX12_lay 99 = .ok (.iastore, 1) := by decide +kernel
theorem dX12_lay_100 : decode cX12_lay 100 = .ok (.iconst 1, 1) := by decide +kernel
theorem dX12_lay_101 : decode cX12_lay 101 = .ok (.ireturn, 1) := by decide +kernel
theorem dX12_snap_0 : decode cX12_snap 0 = .ok (.aload_n 0, 1) := by decide +kernel
theorem dX12_snap_1 : decode cX12_snap 1 = .ok (.iload_n 1, 1) := by decide +kernel
theorem dX12_snap_2 : decode cX12_snap 2 = .ok (.invokevirtual 510, 3) := by decide +kernel
theorem dX12_snap_5 : decode cX12_snap 5 = .ok (.ifCond .eq 18, 3) := by decide +kernel
theorem dX12_snap_8 : decode cX12_snap 8 = .ok (.aload_n 0, 1) := by decide +kernel
theorem dX12_snap_9 : decode cX12_snap 9 = .ok (.getfield 86, 3) := by decide +kernel
theorem dX12_snap_12 : decode cX12_snap 12 = .ok (.aload_n 0, 1) := by decide +kernel
theorem dX12_snap_13 : decode cX12_snap 13 = .ok (.iload_n 1, 1) := by decide +kernel
theorem dX12_snap_14 : decode cX12_snap 14 = .ok (.invokevirtual 484, 3) := by decide +kernel
theorem dX12_snap_17 : decode cX12_snap 17 = .ok (.iaload, 1) := by decide +kernel
theorem dX12_snap_18 : decode cX12_snap 18 = .ok (.bipush 40, 2) := by decide +kernel
theorem dX12_snap_20 : decode cX12_snap 20 = .ok (.if_icmp .ne 9, 3) := by decide +kernel
theorem dX12_snap_23 : decode cX12_snap 23 = .ok (.aload_n 0, 1) := by decide +kernel
theorem dX12_snap_24 : decode cX12_snap 24 = .ok (.iconst 3, 1) := by decide +kernel
theorem dX12_snap_25 : decode cX12_snap 25 = .ok (.invokevirtual 271, 3) := by decide +kernel
theorem dX12_snap_28 : decode cX12_snap 28 = .ok (.ireturn, 1) := by decide +kernel
theorem dX12_snap_29 : decode cX12_snap 29 = .ok (.aload_n 0, 1) := by decide +kernel
theorem dX12_snap_30 : decode cX12_snap 30 = .ok (.getfield 86, 3) := by decide +kernel
theorem dX12_snap_33 : decode cX12_snap 33 = .ok (.aload_n 0, 1) := by decide +kernel
theorem dX12_snap_34 : decode cX12_snap 34 = .ok (.iload_n 1, 1) := by decide +kernel
theorem dX12_snap_35 : decode cX12_snap 35 = .ok (.invokevirtual 484, 3) := by decide +kernel
theorem dX12_snap_38 : decode cX12_snap 38 = .ok (.bipush 40, 2) := by decide +kernel
theorem dX12_snap_40 : decode cX12_snap 40 = .ok (.iastore, 1) := by decide +kernel
theorem dX12_snap_41 : decode cX12_snap 41 = .ok (.aload_n 0, 1) := by decide +kernel
theorem dX12_snap_42 : decode cX12_snap 42 = .ok (.getfield 89, 3) := by decide +kernel
theorem dX12_snap_45 : decode cX12_snap 45 = .ok (.aload_n 0, 1) := by decide +kernel
theorem dX12_snap_46 : decode cX12_snap 46 = .ok (.iload_n 1, 1) := by decide +kernel
theorem dX12_snap_47 : decode cX12_snap 47 = .ok (.invokevirtual 484, 3) := by decide +kernel
theorem dX12_snap_50 : decode cX12_snap 50 = .ok (.iaload, 1) := by decide +kernel
theorem dX12_snap_51 : decode cX12_snap 51 = .ok (.ireturn, 1) := by decide +kernel
theorem dX12_notes_0 : decode cX12_notes 0 = .ok (.iconst 0, 1) := by decide +kernel
theorem dX12_notes_1 : decode cX12_notes 1 = .ok (.istore_n 1, 1) := by decide +kernel
theorem dX12_notes_2 : decode cX12_notes 2 = .ok (.iload_n 1, 1) := by decide +kernel
theorem dX12_notes_3 : decode cX12_notes 3 = .ok (.iconst 3, 1) := by decide +kernel
theorem dX12_notes_4 : decode cX12_notes 4 = .ok (.if_icmp .ge 28, 3) := by decide +kernel
theorem dX12_notes_7 : decode cX12_notes 7 = .ok (.aload_n 0, 1) := by decide +kernel
theorem dX12_notes_8 : decode cX12_notes 8 = .ok (.getfield 198, 3) := by decide +kernel
theorem dX12_notes_11 : decode cX12_notes 11 = .ok (.iload_n 1, 1) := by decide +kernel
theorem dX12_notes_12 : decode cX12_notes 12 = .ok (.aload_n 0, 1) := by decide +kernel
theorem dX12_notes_13 : decode cX12_notes 13 = .ok (.getfield 101, 3) := by decide +kernel
theorem dX12_notes_16 : decode cX12_notes 16 = .ok (.iconst 3, 1) := by decide +kernel
theorem dX12_notes_17 : decode cX12_notes 17 = .ok (.aload_n 0, 1) := by decide +kernel
theorem dX12_notes_18 : decode cX12_notes 18 = .ok (.getfield 48, 3) := by decide +kernel
theorem dX12_notes_21 : decode cX12_notes 21 = .ok (.imul, 1) := by decide +kernel
theorem dX12_notes_22 : decode cX12_notes 22 = .ok (.iload_n 1, 1) := by decide +kernel
theorem dX12_notes_23 : decode cX12_notes 23 = .ok (.iadd, 1) := by decide +kernel
theorem dX12_notes_24 : decode cX12_notes 24 = .ok (.iaload, 1) := by decide +kernel
theorem dX12_notes_25 : decode cX12_notes 25 = .ok (.iastore, 1) := by decide +kernel
theorem dX12_notes_26 : decode cX12_notes 26 = .ok (.iinc 1 1, 3) := by decide +kernel
theorem dX12_notes_29 : decode cX12_notes 29 = .ok (.goto (-27), 3) := by decide +kernel
theorem dX12_notes_32 : decode cX12_notes 32 = .ok (.iconst 0, 1) := by decide +kernel
theorem dX12_notes_33 : decode cX12_notes 33 = .ok (.istore_n 1, 1) := by decide +kernel
theorem dX12_notes_34 : decode cX12_notes 34 = .ok (.iload_n 1, 1) := by decide +kernel
theorem dX12_notes_35 : decode cX12_notes 35 = .ok (.iconst 4, 1) := by decide +kernel
theorem dX12_notes_36 : decode cX12_notes 36 = .ok (.if_icmp .ge 25, 3) := by decide +kernel
theorem dX12_notes_39 : decode cX12_notes 39 = .ok (.aload_n 0, 1) := by decide +kernel
theorem dX12_notes_40 : decode cX12_notes 40 = .ok (.getfield 201, 3) := by decide +kernel
theorem dX12_notes_43 : decode cX12_notes 43 = .ok (.iload_n 1, 1) := by decide +kernel
theorem dX12_notes_44 : decode cX12_notes 44 = .ok (.aload_n 0, 1) := by decide +kernel
theorem dX12_notes_45 : decode cX12_notes 45 = .ok (.getfield 89, 3) := by decide +kernel
theorem dX12_notes_48 : decode cX12_notes 48 = .ok (.aload_n 0, 1) := by decide +kernel
theorem dX12_notes_49 : decode cX12_notes 49 = .ok (.iload_n 1, 1) := by decide +kernel
theorem dX12_notes_50 : decode cX12_notes 50 = .ok (.invokevirtual 484, 3) := by decide +kernel
theorem dX12_notes_53 : decode cX12_notes 53 = .ok (.iaload, 1) := by decide +kernel
theorem dX12_notes_54 : decode cX12_notes 54 = .ok (.iastore, 1) := by decide +kernel
theorem dX12_notes_55 : decode cX12_notes 55 = .ok (.iinc 1 1, 3) := by decide +kernel
theorem dX12_notes_58 : decode cX12_notes 58 = .ok (.goto (-24), 3) := by decide +kernel
theorem dX12_notes_61 : decode cX12_notes 61 = .ok (.iconst 0, 1) := by decide +kernel
theorem dX12_notes_62 : decode cX12_notes 62 = .ok (.istore_n 1, 1) := by decide +kernel
theorem dX12_notes_63 : decode cX12_notes 63 = .ok (.iload_n 1, 1) := by decide +kernel
theorem dX12_notes_64 : decode cX12_notes 64 = .ok (.bipush 40, 2) := by decide +kernel
theorem dX12_notes_66 : decode cX12_notes 66 = .ok (.if_icmp .ge 29, 3) := by decide +kernel
theorem dX12_notes_69 : decode cX12_notes 69 = .ok (.aload_n 0, 1) := by decide +kernel
theorem dX12_notes_70 : decode cX12_notes 70 = .ok (.getfield 204, 3) := by decide +kernel
theorem dX12_notes_73 : decode cX12_notes 73 = .ok (.iload_n 1, 1) := by decide +kernel
theorem dX12_notes_74 : decode cX12_notes 74 = .ok (.aload_n 0, 1) := by decide +kernel
theorem dX12_notes_75 : decode cX12_notes 75 = .ok (.getfield 92, 3) := by decide +kernel
theorem dX12_notes_78 : decode cX12_notes 78 = .ok (.bipush 40, 2) := by decide +kernel
theorem dX12_notes_80 : decode cX12_notes 80 = .ok (.aload_n 0, 1) := by decide +kernel
theorem dX12_notes_81 : decode cX12_notes 81 = .ok (.getfield 48, 3) := by decide +kernel
theorem dX12_notes_84 : decode cX12_notes 84 = .ok (.imul, 1) := by decide +kernel
theorem dX12_notes_85 : decode cX12_notes 85 = .ok (.iload_n 1, 1) := by decide +kernel
theorem dX12_notes_86 : decode cX12_notes 86 = .ok (.iadd, 1) := by decide +kernel
theorem dX12_notes_87 : decode cX12_notes 87 = .ok (.iaload, 1) := by decide +kernel
theorem dX12_notes_88 : decode cX12_notes 88 = .ok (.iastore, 1) := by decide +kernel
theorem dX12_notes_89 : decode cX12_notes 89 = .ok (.iinc 1 1, 3) := by decide +kernel
theorem dX12_notes_92 : decode cX12_notes 92 = .ok (.goto (-29), 3) := by decide +kernel
theorem dX12_notes_95 : decode cX12_notes 95 = .ok (.return_, 1) := by decide +kernel
theorem dX12_back_0 : decode cX12_back 0 = .ok (.iconst 0, 1) := by decide +kernel
theorem dX12_back_1 : decode cX12_back 1 = .ok (.istore_n 1, 1) := by decide +kernel
theorem dX12_back_2 : decode cX12_back 2 = .ok (.iload_n 1, 1) := by decide +kernel
theorem dX12_back_3 : decode cX12_back 3 = .ok (.iconst 3, 1) := by decide +kernel
theorem dX12_back_4 : decode cX12_back 4 = .ok (.if_icmp .ge 28, 3) := by decide +kernel
theorem dX12_back_7 : decode cX12_back 7 = .ok (.aload_n 0, 1) := by decide +kernel
theorem dX12_back_8 : decode cX12_back 8 = .ok (.getfield 101, 3) := by decide +kernel
theorem dX12_back_11 : decode cX12_back 11 = .ok (.iconst 3, 1) := by decide +kernel
theorem dX12_back_12 : decode cX12_back 12 = .ok (.aload_n 0, 1) := by decide +kernel
theorem dX12_back_13 : decode cX12_back 13 = .ok (.getfield 48, 3) := by decide +kernel
theorem dX12_back_16 : decode cX12_back 16 = .ok (.imul, 1) := by decide +kernel
theorem dX12_back_17 : decode cX12_back 17 = .ok (.iload_n 1, 1) := by decide +kernel
theorem dX12_back_18 : decode cX12_back 18 = .ok (.iadd, 1) := by decide +kernel
theorem dX12_back_19 : decode cX12_back 19 = .ok (.aload_n 0, 1) := by decide +kernel
theorem dX12_back_20 : decode cX12_back 20 = .ok (.getfield 198, 3) := by decide +kernel
theorem dX12_back_23 : decode cX12_back 23 = .ok (.iload_n 1, 1) := by decide +kernel
theorem dX12_back_24 : decode cX12_back 24 = .ok (.iaload, 1) := by decide +kernel
theorem dX12_back_25 : decode cX12_back 25 = .ok (.iastore, 1) := by decide +kernel
theorem dX12_back_26 : decode cX12_back 26 = .ok (.iinc 1 1, 3) := by decide +kernel
theorem dX12_back_29 : decode cX12_back 29 = .ok (.goto (-27), 3) := by decide +kernel
theorem dX12_back_32 : decode cX12_back 32 = .ok (.iconst 0, 1) := by decide +kernel
theorem dX12_back_33 : decode cX12_back 33 = .ok (.istore_n 1, 1) := by decide +kernel
theorem dX12_back_34 : decode cX12_back 34 = .ok (.iload_n 1, 1) := by decide +kernel
theorem dX12_back_35 : decode cX12_back 35 = .ok (.iconst 4, 1) := by decide +kernel
theorem dX12_back_36 : decode cX12_back 36 = .ok (.if_icmp .ge 25, 3) := by decide +kernel
theorem dX12_back_39 : decode cX12_back 39 = .ok (.aload_n 0, 1) := by decide +kernel
theorem dX12_back_40 : decode cX12_back 40 = .ok (.getfield 89, 3) := by decide +kernel
theorem dX12_back_43 : decode cX12_back 43 = .ok (.aload_n 0, 1) := by decide +kernel
theorem dX12_back_44 : decode cX12_back 44 = .ok (.iload_n 1, 1) := by decide +kernel
theorem dX12_back_45 : decode cX12_back 45 = .ok (.invokevirtual 484, 3) := by decide +kernel
theorem dX12_back_48 : decode cX12_back 48 = .ok (.aload_n 0, 1) := by decide +kernel
theorem dX12_back_49 : decode cX12_back 49 = .ok (.getfield 201, 3) := by decide +kernel
theorem dX12_back_52 : decode cX12_back 52 = .ok (.iload_n 1, 1) := by decide +kernel
theorem dX12_back_53 : decode cX12_back 53 = .ok (.iaload, 1) := by decide +kernel
theorem dX12_back_54 : decode cX12_back 54 = .ok (.iastore, 1) := by decide +kernel
theorem dX12_back_55 : decode cX12_back 55 = .ok (.iinc 1 1, 3) := by decide +kernel
theorem dX12_back_58 : decode cX12_back 58 = .ok (.goto (-24), 3) := by decide +kernel
theorem dX12_back_61 : decode cX12_back 61 = .ok (.iconst 0, 1) := by decide +kernel
theorem dX12_back_62 : decode cX12_back 62 = .ok (.istore_n 1, 1) := by decide +kernel
theorem dX12_back_63 : decode cX12_back 63 = .ok (.iload_n 1, 1) := by decide +kernel
theorem dX12_back_64 : decode cX12_back 64 = .ok (.bipush 40, 2) := by decide +kernel
theorem dX12_back_66 : decode cX12_back 66 = .ok (.if_icmp .ge 29, 3) := by decide +kernel
theorem dX12_back_69 : decode cX12_back 69 = .ok (.aload_n 0, 1) := by decide +kernel
theorem dX12_back_70 : decode cX12_back 70 = .ok (.getfield 92, 3) := by decide +kernel
theorem dX12_back_73 : decode cX12_back 73 = .ok (.bipush 40, 2) := by decide +kernel
theorem dX12_back_75 : decode cX12_back 75 = .ok (.aload_n 0, 1) := by decide +kernel
theorem dX12_back_76 : decode cX12_back 76 = .ok (.getfield 48, 3) := by decide +kernel
theorem dX12_back_79 : decode cX12_back 79 = .ok (.imul, 1) := by decide +kernel
theorem dX12_back_80 : decode cX12_back 80 = .ok (.iload_n 1, 1) := by decide +kernel
theorem dX12_back_81 : decode cX12_back 81 = .ok (.iadd, 1) := by decide +kernel
theorem dX12_back_82 : decode cX12_back 82 = .ok (.aload_n 0, 1) := by decide +kernel
theorem dX12_back_83 : decode cX12_back 83 = .ok (.getfield 204, 3) := by decide +kernel
theorem dX12_back_86 : decode cX12_back 86 = .ok (.iload_n 1, 1) := by decide +kernel
theorem dX12_back_87 : decode cX12_back 87 = .ok (.iaload, 1) := by decide +kernel
theorem dX12_back_88 : decode cX12_back 88 = .ok (.iastore, 1) := by decide +kernel
theorem dX12_back_89 : decode cX12_back 89 = .ok (.iinc 1 1, 3) := by decide +kernel
theorem dX12_back_92 : decode cX12_back 92 = .ok (.goto (-29), 3) := by decide +kernel
theorem dX12_back_95 : decode cX12_back 95 = .ok (.return_, 1) := by decide +kernel
theorem dX12_firstKey_0 : decode cX12_firstKey 0 = .ok (.iconst 0, 1) := by decide +kernel
theorem dX12_firstKey_1 : decode cX12_firstKey 1 = .ok (.istore_n 3, 1) := by decide +kernel
theorem dX12_firstKey_2 : decode cX12_firstKey 2 = .ok (.iload_n 3, 1) := by decide +kernel
theorem dX12_firstKey_3 : decode cX12_firstKey 3 = .ok (.aload_n 0, 1) := by decide +kernel
theorem dX12_firstKey_4 : decode cX12_firstKey 4 = .ok (.getfield 80, 3) := by decide +kernel
theorem dX12_firstKey_7 : decode cX12_firstKey 7 = .ok (.aload_n 0, 1) := by decide +kernel
theorem dX12_firstKey_8 : decode cX12_firstKey 8 = .ok (.getfield 48, 3) := by decide +kernel
theorem dX12_firstKey_11 : decode cX12_firstKey 11 = .ok (.iaload, 1) := by decide +kernel
theorem dX12_firstKey_12 : decode cX12_firstKey 12 = .ok (.if_icmp .ge 34, 3) := by decide +kernel
theorem dX12_firstKey_15 : decode cX12_firstKey 15 = .ok (.aload_n 0, 1) := by decide +kernel
theorem dX12_firstKey_16 : decode cX12_firstKey 16 = .ok (.getfield 86, 3) := by decide +kernel
theorem dX12_firstKey_19 : decode cX12_firstKey 19 = .ok (.aload_n 0, 1) := by decide +kernel
theorem dX12_firstKey_20 : decode cX12_firstKey 20 = .ok (.iload_n 3, 1) := by decide +kernel
theorem dX12_firstKey_21 : decode cX12_firstKey 21 = .ok (.invokevirtual 484, 3) := by decide +kernel
theorem dX12_firstKey_24 : decode cX12_firstKey 24 = .ok (.iaload, 1) := by decide +kernel
theorem dX12_firstKey_25 : decode cX12_firstKey 25 = .ok (.iload_n 1, 1) := by decide +kernel
theorem dX12_firstKey_26 : decode cX12_firstKey 26 = .ok (.if_icmp .ne 14, 3) := by decide +kernel
theorem dX12_firstKey_29 : decode cX12_firstKey 29 = .ok (.aload_n 0, 1) := by decide +kernel
theorem dX12_firstKey_30 : decode cX12_firstKey 30 = .ok (.iload_n 3, 1) := by decide +kernel
theorem dX12_firstKey_31 : decode cX12_firstKey 31 = .ok (.iload_n 2, 1) := by decide +kernel
theorem dX12_firstKey_32 : decode cX12_firstKey 32 = .ok (.invokevirtual 490, 3) := by decide +kernel
theorem dX12_firstKey_35 : decode cX12_firstKey 35 = .ok (.ifCond .ne 5, 3) := by decide +kernel
theorem dX12_firstKey_38 : decode cX12_firstKey 38 = .ok (.iload_n 3, 1) := by decide +kernel
theorem dX12_firstKey_39 : decode cX12_firstKey 39 = .ok (.ireturn, 1) := by decide +kernel
theorem dX12_firstKey_40 : decode cX12_firstKey 40 = .ok (.iinc 3 1, 3) := by decide +kernel
theorem dX12_firstKey_43 : decode cX12_firstKey 43 = .ok (.goto (-41), 3) := by decide +kernel
theorem dX12_firstKey_46 : decode cX12_firstKey 46 = .ok (.iconst (-1), 1) := by decide +kernel
theorem dX12_firstKey_47 : decode cX12_firstKey 47 = .ok (.ireturn, 1) := by decide +kernel
