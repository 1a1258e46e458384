theorem dX12_shut_45 : decode cX12_shut 45 = .ok (.invokevirtual 271, 3) := by decide +kernel
theorem dX12_shut_48 : decode cX12_shut 48 = .ok (.goto 5, 3) := by decide +kernel
theorem dX12_shut_53 : decode cX12_shut 53 = .ok (.ireturn, 1) := by decide +kernel
theorem dX12_lend_0 : decode cX12_lend 0 = .ok (.aload_n 0, 1) := by decide +kernel
theorem dX12_lend_1 : decode cX12_lend 1 = .ok (.iload_n 1, 1) := by decide +kernel
theorem dX12_lend_2 : decode cX12_lend 2 = .ok (.invokevirtual 539, 3) := by decide +kernel
theorem dX12_lend_5 : decode cX12_lend 5 = .ok (.ifCond .eq 28, 3) := by decide +kernel
theorem dX12_lend_33 : decode cX12_lend 33 = .ok (.iconst 0, 1) := by decide +kernel
theorem dX12_lend_34 : decode cX12_lend 34 = .ok (.istore 4, 2) := by decide +kernel
theorem dX12_lend_36 : decode cX12_lend 36 = .ok (.iload 4, 2) := by decide +kernel
theorem dX12_lend_38 : decode cX12_lend 38 = .ok (.ifCond .eq 30, 3) := by decide +kernel
theorem dX12_lend_68 : decode cX12_lend 68 = .ok (.aload_n 0, 1) := by decide +kernel
theorem dX12_lend_69 : decode cX12_lend 69 = .ok (.iconst 3, 1) := by decide +kernel
theorem dX12_lend_70 : decode cX12_lend 70 = .ok (.invokevirtual 271, 3) := by decide +kernel
theorem dX12_lend_73 : decode cX12_lend 73 = .ok (.ifCond .lt 7, 3) := by decide +kernel
theorem dX12_lend_80 : decode cX12_lend 80 = .ok (.iconst 0, 1) := by decide +kernel
theorem dX12_lend_81 : decode cX12_lend 81 = .ok (.ireturn, 1) := by decide +kernel
theorem dX12_take_0 : decode cX12_take 0 = .ok (.aload_n 0, 1) := by decide +kernel
theorem dX12_take_1 : decode cX12_take 1 = .ok (.iload_n 1, 1) := by decide +kernel
theorem dX12_take_2 : decode cX12_take 2 = .ok (.invokevirtual 539, 3) := by decide +kernel
theorem dX12_take_5 : decode cX12_take 5 = .ok (.ifCond .eq 11, 3) := by decide +kernel
theorem dX12_take_16 : decode cX12_take 16 = .ok (.aload_n 0, 1) := by decide +kernel
theorem dX12_take_17 : decode cX12_take 17 = .ok (.iconst 3, 1) := by decide +kernel
theorem dX12_take_18 : decode cX12_take 18 = .ok (.invokevirtual 271, 3) := by decide +kernel
theorem dX12_take_21 : decode cX12_take 21 = .ok (.ifCond .lt 7, 3) := by decide +kernel
theorem dX12_take_28 : decode cX12_take 28 = .ok (.iconst 0, 1) := by decide +kernel
theorem dX12_take_29 : decode cX12_take 29 = .ok (.ireturn, 1) := by decide +kernel
theorem dX12_lay_0 : decode cX12_lay 0 = .ok (.aload_n 0, 1) := by decide +kernel
theorem dX12_lay_1 : decode cX12_lay 1 = .ok (.iload_n 1, 1) := by decide +kernel
theorem dX12_lay_2 : decode cX12_lay 2 = .ok (.invokevirtual 539, 3) := by decide +kernel
theorem dX12_lay_5 : decode cX12_lay 5 = .ok (.ifCond .eq 43, 3) := by decide +kernel
theorem dX12_lay_48 : decode cX12_lay 48 = .ok (.iconst 0, 1) := by decide +kernel
theorem dX12_lay_49 : decode cX12_lay 49 = .ok (.istore 4, 2) := by decide +kernel
theorem dX12_lay_51 : decode cX12_lay 51 = .ok (.iload 4, 2) := by decide +kernel
theorem dX12_lay_53 : decode cX12_lay 53 = .ok (.ifCond .ne 17, 3) := by decide +kernel
theorem dX12_lay_56 : decode cX12_lay 56 = .ok (.aload_n 0, 1) := by decide +kernel
theorem dX12_lay_57 : decode cX12_lay 57 = .ok (.iconst 3, 1) := by decide +kernel
theorem dX12_lay_58 : decode cX12_lay 58 = .ok (.invokevirtual 271, 3) := by decide +kernel
theorem dX12_lay_61 : decode cX12_lay 61 = .ok (.ifCond .lt 7, 3) := by decide +kernel
theorem dX12_lay_68 : decode cX12_lay 68 = .ok (.iconst 0, 1) := by decide +kernel
theorem dX12_lay_69 : decode cX12_lay 69 = .ok (.ireturn, 1) := by decide +kernel
theorem dX12_snap_0 : decode cX12_snap 0 = .ok (.aload_n 0, 1) := by decide +kernel
theorem dX12_snap_1 : decode cX12_snap 1 = .ok (.iload_n 1, 1) := by decide +kernel
theorem dX12_snap_2 : decode cX12_snap 2 = .ok (.invokevirtual 510, 3) := by decide +kernel
theorem dX12_snap_5 : decode cX12_snap 5 = .ok (.ifCond .eq 18, 3) := by decide +kernel
theorem dX12_snap_23 : decode cX12_snap 23 = .ok (.aload_n 0, 1) := by decide +kernel
theorem dX12_snap_24 : decode cX12_snap 24 = .ok (.iconst 3, 1) := by decide +kernel
theorem dX12_snap_25 : decode cX12_snap 25 = .ok (.invokevirtual 271, 3) := by decide +kernel
theorem dX12_snap_28 : decode cX12_snap 28 = .ok (.ireturn, 1) := by decide +kernel
theorem dX12_notes_0 : decode cX12_notes 0 = .ok (.iconst 0, 1) := by decide +kernel
theorem dX12_notes_1 : decode cX12_notes 1 = .ok (.istore_n 1, 1) := by decide +kernel
theorem dX12_notes_2 : decode cX12_notes 2 = .ok (.iload_n 1, 1) := by decide +kernel
theorem dX12_notes_3 : decode cX12_notes 3 = .ok (.iconst 3, 1) := by decide +kernel
theorem dX12_notes_4 : decode cX12_notes 4 = .ok (.if_icmp .ge 28, 3) := by decide +kernel
theorem dX12_notes_7 : decode cX12_notes 7 = .ok (.aload_n 0, 1) := by decide +kernel
theorem dX12_notes_8 : decode cX12_notes 8 = .ok (.getfield 198, 3) := by decide +kernel
theorem dX12_notes_11 : decode cX12_notes 11 = .ok (.iload_n 1, 1) := by decide +kernel
theorem dX12_notes_12 : decode cX12_notes 12 = .ok (.aload_n 0, 1) := by decide +kernel
theorem dX12_notes_13 : decode cX12_notes 13 = .ok (.getfield 101, 3) := by decide +kernel
theorem dX12_notes_16 : decode cX12_notes 16 = .ok (.iconst 3, 1) := by decide +kernel
theorem dX12_notes_17 : decode cX12_notes 17 = .ok (.aload_n 0, 1) := by decide +kernel
theorem dX12_notes_18 : decode cX12_notes 18 = .ok (.getfield 48, 3) := by decide +kernel
theorem dX12_notes_21 : decode cX12_notes 21 = .ok (.imul, 1) := by decide +kernel
theorem dX12_notes_22 : decode cX12_notes 22 = .ok (.iload_n 1, 1) := by decide +kernel
theorem dX12_notes_23 : decode cX12_notes 23 = .ok (.iadd, 1) := by decide +kernel
theorem dX12_notes_24 : decode cX12_notes 24 = .ok (.iaload, 1) := by decide +kernel
theorem dX12_notes_25 : decode cX12_notes 25 = .ok (.iastore, 1) := by decide +kernel
theorem dX12_notes_26 : decode cX12_notes 26 = .ok (.iinc 1 1, 3) := by decide +kernel
theorem dX12_notes_29 : decode cX12_notes 29 = .ok (.goto (-27), 3) := by decide +kernel
theorem dX12_notes_32 : decode cX12_notes 32 = .ok (.iconst 0, 1) := by decide +kernel
theorem dX12_notes_33 : decode cX12_notes 33 = .ok (.istore_n 1, 1) := by decide +kernel
theorem dX12_notes_34 : decode cX12_notes 34 = .ok (.iload_n 1, 1) := by decide +kernel
theorem dX12_notes_35 : decode cX12_notes 35 = .ok (.iconst 4, 1) := by decide +kernel
theorem dX12_notes_36 : decode cX12_notes 36 = .ok (.if_icmp .ge 25, 3) := by decide +kernel
theorem dX12_notes_39 : decode cX12_notes 39 = .ok (.aload_n 0, 1) := by decide +kernel
theorem dX12_notes_40 : decode cX12_notes 40 = .ok (.getfield 201, 3) := by decide +kernel
theorem dX12_notes_43 : decode cX12_notes 43 = .ok (.iload_n 1, 1) := by decide +kernel
theorem dX12_notes_44 : decode cX12_notes 44 = .ok (.aload_n 0, 1) := by decide +kernel
theorem dX12_notes_45 : decode cX12_notes 45 = .ok (.getfield 89, 3) := by decide +kernel
theorem dX12_notes_48 : decode cX12_notes 48 = .ok (.aload_n 0, 1) := by decide +kernel
theorem dX12_notes_49 : decode cX12_notes 49 = .ok (.iload_n 1, 1) := by decide +kernel
theorem dX12_notes_50 : decode cX12_notes 50 = .ok (.invokevirtual 484, 3) := by decide +kernel
theorem dX12_notes_53 : decode cX12_notes 53 = .ok (.iaload, 1) := by decide +kernel
theorem dX12_notes_54 : decode cX12_notes 54 = .ok (.iastore, 1) := by decide +kernel
theorem dX12_notes_55 : decode cX12_notes 55 = .ok (.iinc 1 1, 3) := by decide +kernel
theorem dX12_notes_58 : decode cX12_notes 58 = .ok (.goto (-24), 3) := by decide +kernel
theorem dX12_notes_61 : decode cX12_notes 61 = .ok (.iconst 0, 1) := by decide +kernel
theorem dX12_notes_62 : decode cX12_notes 62 = .ok (.istore_n 1, 1) := by decide +kernel
theorem dX12_notes_63 : decode cX12_notes 63 = .ok (.iload_n 1, 1) := by decide +kernel
theorem dX12_notes_64 : decode cX12_notes 64 = .ok (.bipush 40, 2) := by decide +kernel
theorem dX12_notes_66 : decode cX12_notes 66 = .ok (.if_icmp .ge 29, 3) := by decide +kernel
theorem dX12_notes_69 : decode cX12_notes 69 = .ok (.aload_n 0, 1) := by decide +kernel
theorem dX12_notes_70 : decode cX12_notes 70 = .ok (.getfield 204, 3) := by decide +kernel
theorem dX12_notes_73 : decode cX12_notes 73 = .ok (.iload_n 1, 1) := by decide +kernel
theorem dX12_notes_74 : decode cX12_notes 74 = .ok (.aload_n 0, 1) := by decide +kernel
theorem dX12_notes_75 : decode cX12_notes 75 = .ok (.getfield 92, 3) := by decide +kernel
theorem dX12_notes_78 : decode cX12_notes 78 = .ok (.bipush 40, 2) := by decide +kernel
theorem dX12_notes_80 : decode cX12_notes 80 = .ok (.aload_n 0, 1) := by decide +kernel
theorem dX12_notes_81 : decode cX12_notes 81 = .ok (.getfield 48, 3) := by decide +kernel
theorem dX12_notes_84 : decode cX12_notes 84 = .ok (.imul, 1) := by decide +kernel
theorem dX12_notes_85 : decode cX12_notes 85 = .ok (.iload_n 1, 1) := by decide +kernel
theorem dX12_notes_86 : decode cX12_notes 86 = .ok (.iadd, 1) := by decide +kernel
theorem dX12_notes_87 : decode cX12_notes 87 = .ok (.iaload, 1) := by decide +kernel
theorem dX12_notes_88 : decode cX12_notes 88 = .ok (.iastore, 1) := by decide +kernel
theorem dX12_notes_89 : decode cX12_notes 89 = .ok (.iinc 1 1, 3) := by decide +kernel
theorem dX12_notes_92 : decode cX12_notes 92 = .ok (.goto (-29), 3) := by decide +kernel
theorem dX12_notes_95 : decode cX12_notes 95 = .ok (.return_, 1) := by decide +kernel
theorem dX12_back_0 : decode cX12_back 0 = .ok (.iconst 0, 1) := by decide +kernel
theorem dX12_back_1 : decode cX12_back 1 = .ok (.istore_n 1, 1) := by decide +kernel
theorem dX12_back_2 : decode cX12_back 2 = .ok (.iload_n 1, 1) := by decide +kernel
theorem dX12_back_3 : decode cX12_back 3 = .ok (.iconst 3, 1) := by decide +kernel
theorem dX12_back_4 : decode cX12_back 4 = .ok (.if_icmp .ge 28, 3) := by decide +kernel
theorem dX12_back_7 : decode cX12_back 7 = .ok (.aload_n 0, 1) := by decide +kernel
theorem dX12_back_8 : decode cX12_back 8 = .ok (.getfield 101, 3) := by decide +kernel
theorem dX12_back_11 : decode cX12_back 11 = .ok (.iconst 3, 1) := by decide +kernel
theorem dX12_back_12 : decode cX12_back 12 = .ok (.aload_n 0, 1) := by decide +kernel
theorem dX12_back_13 : decode cX12_back 13 = .ok (.getfield 48, 3) := by decide +kernel
theorem dX12_back_16 : decode cX12_back 16 = .ok (.imul, 1) := by decide +kernel
theorem dX12_back_17 : decode cX12_back 17 = .ok (.iload_n 1, 1) := by decide +kernel
theorem dX12_back_18 : decode cX12_back 18 = .ok (.iadd, 1) := by decide +kernel
theorem dX12_back_19 : decode cX12_back 19 = .ok (.aload_n 0, 1) := by decide +kernel
theorem dX12_back_20 : decode cX12_back 20 = .ok (.getfield 198, 3) := by decide +kernel
theorem dX12_back_23 : decode cX12_back 23 = .ok (.iload_n 1, 1) := by decide +kernel
theorem dX12_back_24 : decode cX12_back 24 = .ok (.iaload, 1) := by decide +kernel
theorem dX12_back_25 : decode cX12_back 25 = .ok (.iastore, 1) := by decide +kernel
theorem dX12_back_26 : decode cX12_back 26 = .ok (.iinc 1 1, 3) := by decide +kernel
theorem dX12_back_29 : decode cX12_back 29 = .ok (.goto (-27), 3) := by decide +kernel
theorem dX12_back_32 : decode cX12_back 32 = .ok (.iconst 0, 1) := by decide +kernel
theorem dX12_back_33 : decode cX12_back 33 = .ok (.istore_n 1, 1) := by decide +kernel
theorem dX12_back_34 : decode cX12_back 34 = .ok (.iload_n 1, 1) := by decide +kernel
theorem dX12_back_35 : decode cX12_back 35 = .ok (.iconst 4, 1) := by decide +kernel
theorem dX12_back_36 : decode cX12_back 36 = .ok (.if_icmp .ge 25, 3) := by decide +kernel
theorem dX12_back_39 : decode cX12_back 39 = .ok (.aload_n 0, 1) := by decide +kernel
theorem dX12_back_40 : decode cX12_back 40 = .ok (.getfield 89, 3) := by decide +kernel
theorem dX12_back_43 : decode cX12_back 43 = .ok (.aload_n 0, 1) := by decide +kernel
theorem dX12_back_44 : decode cX12_back 44 = .ok (.iload_n 1, 1) := by decide +kernel
theorem dX12_back_45 : decode cX12_back 45 = .ok (.invokevirtual 484, 3) := by decide +kernel
theorem dX12_back_48 : decode cX12_back 48 = .ok (.aload_n 0, 1) := by decide +kernel
theorem dX12_back_49 : decode cX12_back 49 = .ok (.getfield 201, 3) := by decide +kernel
theorem dX12_back_52 : decode cX12_back 52 = .ok (.iload_n 1, 1) := by decide +kernel
theorem dX12_back_53 : decode cX12_back 53 = .ok (.iaload, 1) := by decide +kernel
theorem dX12_back_54 : decode cX12_back 54 = .ok (.iastore, 1) := by decide +kernel
theorem dX12_back_55 : decode cX12_back 55 = .ok (.iinc 1 1, 3) := by decide +kernel
theorem dX12_back_58 : decode cX12_back 58 = .ok (.goto (-24), 3) := by decide +kernel
theorem dX12_back_61 : decode cX12_back 61 = .ok (.iconst 0, 1) := by decide +kernel
theorem dX12_back_62 : decode cX12_back 62 = .ok (.istore_n 1, 1) := by decide +kernel
theorem dX12_back_63 : decode cX12_back 63 = .ok (.iload_n 1, 1) := by decide +kernel
theorem dX12_back_64 : decode cX12_back 64 = .ok (.bipush 40, 2) := by decide +kernel
theorem dX12_back_66 : decode cX12_back 66 = .ok (.if_icmp .ge 29, 3) := by decide +kernel
theorem dX12_back_69 : decode cX12_back 69 = .ok (.aload_n 0, 1) := by decide +kernel
theorem dX12_back_70 : decode cX12_back 70 = .ok (.getfield 92, 3) := by decide +kernel
theorem dX12_back_73 : decode cX12_back 73 = .ok (.bipush 40, 2) := by decide +kernel
theorem dX12_back_75 : decode cX12_back 75 = .ok (.aload_n 0, 1) := by decide +kernel
theorem dX12_back_76 : decode cX12_back 76 = .ok (.getfield 48, 3) := by decide +kernel
theorem dX12_back_79 : decode cX12_back 79 = .ok (.imul, 1) := by decide +kernel
theorem dX12_back_80 : decode cX12_back 80 = .ok (.iload_n 1, 1) := by decide +kernel
theorem dX12_back_81 : decode cX12_back 81 = .ok (.iadd, 1) := by decide +kernel
theorem dX12_back_82 : decode cX12_back 82 = .ok (.aload_n 0, 1) := by decide +kernel
theorem dX12_back_83 : decode cX12_back 83 = .ok (.getfield 204, 3) := by decide +kernel
theorem dX12_back_86 : decode cX12_back 86 = .ok (.iload_n 1, 1) := by decide +kernel
theorem dX12_back_87 : decode cX12_back 87 = .ok (.iaload, 1) := by decide +kernel
theorem dX12_back_88 : decode cX12_back 88 = .ok (.iastore, 1) := by decide +kernel
theorem dX12_back_89 : decode cX12_back 89 = .ok (.iinc 1 1, 3) := by decide +kernel
theorem dX12_back_92 : decode cX12_back 92 = .ok (.goto (-29), 3) := by decide +kernel
theorem dX12_back_95 : decode cX12_back 95 = .ok (.return_, 1) := by decide +kernel
theorem dX12_row_0 : decode cX12_row 0 = .ok (.aload_n 0, 1) := by decide +kernel
theorem dX12_row_1 : decode cX12_row 1 = .ok (.getfield 13, 3) := by decide +kernel
theorem dX12_row_4 : decode cX12_row 4 = .ok (.istore_n 1, 1) := by decide +kernel
theorem dX12_row_5 : decode cX12_row 5 = .ok (.aload_n 0, 1) := by decide +kernel
theorem dX12_row_6 : decode cX12_row 6 = .ok (.iconst 0, 1) := by decide +kernel
theorem dX12_row_7 : decode cX12_row 7 = .ok (.putfield 13, 3) := by decide +kernel
theorem dX12_row_10 : decode cX12_row 10 = .ok (.aload_n 0, 1) := by decide +kernel
theorem dX12_row_11 : decode cX12_row 11 = .ok (.invokevirtual 558, 3) := by decide +kernel
theorem dX12_row_14 : decode cX12_row 14 = .ok (.iconst (-1), 1) := by decide +kernel
theorem dX12_row_15 : decode cX12_row 15 = .ok (.istore_n 2, 1) := by decide +kernel
theorem dX12_row_16 : decode cX12_row 16 = .ok (.iconst 0, 1) := by decide +kernel
theorem dX12_row_17 : decode cX12_row 17 = .ok (.istore_n 3, 1) := by decide +kernel
theorem dX12_row_18 : decode cX12_row 18 = .ok (.iload_n 3, 1) := by decide +kernel
theorem dX12_row_19 : decode cX12_row 19 = .ok (.iload_n 1, 1) := by decide +kernel
theorem dX12_row_20 : decode cX12_row 20 = .ok (.if_icmp .ge 67, 3) := by decide +kernel
theorem dX12_row_87 : decode cX12_row 87 = .ok (.aload_n 0, 1) := by decide +kernel
theorem dX12_row_88 : decode cX12_row 88 = .ok (.invokevirtual 564, 3) := by decide +kernel
theorem dX12_row_91 : decode cX12_row 91 = .ok (.iload_n 2, 1) := by decide +kernel
theorem dX12_row_92 : decode cX12_row 92 = .ok (.ireturn, 1) := by decide +kernel
theorem dX12_person__0 : decode cX12_person_ 0 = .ok (.aload_n 0, 1) := by decide +kernel
theorem dX12_person__1 : decode cX12_person_ 1 = .ok (.iload_n 1, 1) := by decide +kernel
theorem dX12_person__2 : decode cX12_person_ 2 = .ok (.invokevirtual 539, 3) := by decide +kernel
theorem dX12_person__5 : decode cX12_person_ 5 = .ok (.ifCond .ne 5, 3) := by decide +kernel
theorem dX12_person__8 : decode cX12_person_ 8 = .ok (.iconst (-1), 1) := by decide +kernel
theorem dX12_person__9 : decode cX12_person_ 9 = .ok (.ireturn, 1) := by decide +kernel
theorem dX12_reach_0 : decode cX12_reach 0 = .ok (.aload_n 0, 1) := by decide +kernel
theorem dX12_reach_1 : decode cX12_reach 1 = .ok (.iload_n 1, 1) := by decide +kernel
theorem dX12_reach_2 : decode cX12_reach 2 = .ok (.invokevirtual 539, 3) := by decide +kernel
theorem dX12_reach_5 : decode cX12_reach 5 = .ok (.ifCond .eq 11, 3) := by decide +kernel
theorem dX12_reach_16 : decode cX12_reach 16 = .ok (.iconst (-1), 1) := by decide +kernel
theorem dX12_reach_17 : decode cX12_reach 17 = .ok (.ireturn, 1) := by decide +kernel
theorem dX12_opens__0 : decode cX12_opens_ 0 = .ok (.aload_n 0, 1) := by decide +kernel
theorem dX12_opens__1 : decode cX12_opens_ 1 = .ok (.iload_n 1, 1) := by decide +kernel
theorem dX12_opens__2 : decode cX12_opens_ 2 = .ok (.invokevirtual 539, 3) := by decide +kernel
theorem dX12_opens__5 : decode cX12_opens_ 5 = .ok (.ifCond .eq 11, 3) := by decide +kernel
theorem dX12_opens__16 : decode cX12_opens_ 16 = .ok (.iconst (-1), 1) := by decide +kernel
theorem dX12_opens__17 : decode cX12_opens_ 17 = .ok (.ireturn, 1) := by decide +kernel
theorem dX12_errands_0 : decode cX12_errands 0 = .ok (.aload_n 0, 1) := by decide +kernel
theorem dX12_errands_1 : decode cX12_errands 1 = .ok (.iload_n 1, 1) := by decide +kernel
theorem dX12_errands_2 : decode cX12_errands 2 = .ok (.invokevirtual 539, 3) := by decide +kernel
theorem dX12_errands_5 : decode cX12_errands 5 = .ok (.ifCond .ne 5, 3) := by decide +kernel
theorem dX12_errands_8 : decode cX12_errands 8 = .ok (.iconst (-1), 1) := by decide +kernel
theorem dX12_errands_9 : decode cX12_errands 9 = .ok (.ireturn, 1) := by decide +kernel
theorem dX12_lent_0 : decode cX12_lent 0 = .ok (.aload_n 0, 1) := by decide +kernel
theorem dX12_lent_1 : decode cX12_lent 1 = .ok (.iload_n 1, 1) := by decide +kernel
theorem dX12_lent_2 : decode cX12_lent 2 = .ok (.invokevirtual 539, 3) := by decide +kernel
theorem dX12_lent_5 : decode cX12_lent 5 = .ok (.ifCond .eq 20, 3) := by decide +kernel
theorem dX12_lent_25 : decode cX12_lent 25 = .ok (.iconst (-1), 1) := by decide +kernel
theorem dX12_lent_26 : decode cX12_lent 26 = .ok (.ireturn, 1) := by decide +kernel
theorem dX12_locked_0 : decode cX12_locked 0 = .ok (.iconst 0, 1) := by decide +kernel
theorem dX12_locked_1 : decode cX12_locked 1 = .ok (.istore_n 1, 1) := by decide +kernel
theorem dX12_locked_2 : decode cX12_locked 2 = .ok (.iconst 0, 1) := by decide +kernel
theorem dX12_locked_3 : decode cX12_locked 3 = .ok (.istore_n 2, 1) := by decide +kernel
theorem dX12_locked_4 : decode cX12_locked 4 = .ok (.iload_n 2, 1) := by decide +kernel
theorem dX12_locked_5 : decode cX12_locked 5 = .ok (.aload_n 0, 1) := by decide +kernel
theorem dX12_locked_6 : decode cX12_locked 6 = .ok (.getfield 95, 3) := by decide +kernel
theorem dX12_locked_9 : decode cX12_locked 9 = .ok (.aload_n 0, 1) := by decide +kernel
theorem dX12_locked_10 : decode cX12_locked 10 = .ok (.getfield 48, 3) := by decide +kernel
theorem dX12_locked_13 : decode cX12_locked 13 = .ok (.iaload, 1) := by decide +kernel
theorem dX12_locked_14 : decode cX12_locked 14 = .ok (.if_icmp .ge 27, 3) := by decide +kernel
theorem dX12_locked_41 : decode cX12_locked 41 = .ok (.iload_n 1, 1) := by decide +kernel
theorem dX12_locked_42 : decode cX12_locked 42 = .ok (.ireturn, 1) := by decide +kernel
theorem dX12_can_0 : decode cX12_can 0 = .ok (.iload_n 1, 1) := by decide +kernel
theorem dX12_can_1 : decode cX12_can 1 = .ok (.iconst 0, 1) := by decide +kernel
theorem dX12_can_2 : decode cX12_can 2 = .ok (.iconst 1, 1) := by decide +kernel
theorem dX12_can_3 : decode cX12_can 3 = .ok (.aload_n 0, 1) := by decide +kernel
theorem dX12_can_4 : decode cX12_can 4 = .ok (.getfield 95, 3) := by decide +kernel
theorem dX12_can_7 : decode cX12_can 7 = .ok (.aload_n 0, 1) := by decide +kernel
theorem dX12_can_8 : decode cX12_can 8 = .ok (.getfield 48, 3) := by decide +kernel
theorem dX12_can_11 : decode cX12_can 11 = .ok (.iaload, 1) := by decide +kernel
theorem dX12_can_12 : decode cX12_can 12 = .ok (.ishl, 1) := by decide +kernel
theorem dX12_can_13 : decode cX12_can 13 = .ok (.iconst 1, 1) := by decide +kernel
theorem dX12_can_14 : decode cX12_can 14 = .ok (.isub, 1) := by decide +kernel
theorem dX12_can_15 : decode cX12_can 15 = .ok (.invokestatic 352, 3) := by decide +kernel
theorem dX12_can_18 : decode cX12_can 18 = .ok (.ifCond .eq 11, 3) := by decide +kernel
theorem dX12_can_21 : decode cX12_can 21 = .ok (.aload_n 0, 1) := by decide +kernel
theorem dX12_can_22 : decode cX12_can 22 = .ok (.iload_n 2, 1) := by decide +kernel
theorem dX12_can_23 : decode cX12_can 23 = .ok (.invokevirtual 507, 3) := by decide +kernel
theorem dX12_can_26 : decode cX12_can 26 = .ok (.ifCond .ne 7, 3) := by decide +kernel
theorem dX12_can_29 : decode cX12_can 29 = .ok (.iconst (-1), 1) := by decide +kernel
theorem dX12_can_30 : decode cX12_can 30 = .ok (.goto 17, 3) := by decide +kernel
theorem dX12_can_47 : decode cX12_can 47 = .ok (.ireturn, 1) := by decide +kernel
theorem dX12_needs_0 : decode cX12_needs 0 = .ok (.aload_n 0, 1) := by decide +kernel
theorem dX12_needs_1 : decode cX12_needs 1 = .ok (.iload_n 1, 1) := by decide +kernel
theorem dX12_needs_2 : decode cX12_needs 2 = .ok (.invokevirtual 507, 3) := by decide +kernel
theorem dX12_needs_5 : decode cX12_needs 5 = .ok (.ifCond .eq 33, 3) := by decide +kernel
theorem dX12_needs_38 : decode cX12_needs 38 = .ok (.iconst (-1), 1) := by decide +kernel
theorem dX12_needs_39 : decode cX12_needs 39 = .ok (.ireturn, 1) := by decide +kernel
theorem dX12_cross_0 : decode cX12_cross 0 = .ok (.iload_n 1, 1) := by decide +kernel
theorem dX12_cross_1 : decode cX12_cross 1 = .ok (.ifCond .eq 10, 3) := by decide +kernel
theorem dX12_cross_4 : decode cX12_cross 4 = .ok (.iload_n 1, 1) := by decide +kernel
theorem dX12_cross_5 : decode cX12_cross 5 = .ok (.iconst 1, 1) := by decide +kernel
theorem dX12_cross_6 : decode cX12_cross 6 = .ok (.if_icmp .eq 5, 3) := by decide +kernel
theorem dX12_cross_9 : decode cX12_cross 9 = .ok (.iconst (-1), 1) := by decide +kernel
theorem dX12_cross_10 : decode cX12_cross 10 = .ok (.ireturn, 1) := by decide +kernel
theorem dX12_cross_11 : decode cX12_cross 11 = .ok (.iconst 0, 1) := by decide +kernel
theorem dX12_cross_12 : decode cX12_cross 12 = .ok (.istore_n 2, 1) := by decide +kernel
theorem dX12_cross_13 : decode cX12_cross 13 = .ok (.iload_n 2, 1) := by decide +kernel
theorem dX12_cross_14 : decode cX12_cross 14 = .ok (.aload_n 0, 1) := by decide +kernel
theorem dX12_cross_15 : decode cX12_cross 15 = .ok (.getfield 122, 3) := by decide +kernel
theorem dX12_cross_18 : decode cX12_cross 18 = .ok (.aload_n 0, 1) := by decide +kernel
theorem dX12_cross_19 : decode cX12_cross 19 = .ok (.getfield 48, 3) := by decide +kernel
theorem dX12_cross_22 : decode cX12_cross 22 = .ok (.iaload, 1) := by decide +kernel
theorem dX12_cross_23 : decode cX12_cross 23 = .ok (.if_icmp .ge 49, 3) := by decide +kernel
theorem dX12_cross_72 : decode cX12_cross 72 = .ok (.iconst (-1), 1) := by decide +kernel
theorem dX12_cross_73 : decode cX12_cross 73 = .ok (.ireturn, 1) := by decide +kernel
theorem dX12_fits8_0 : decode cX12_fits8 0 = .ok (.iconst 0, 1) := by decide +kernel
theorem dX12_fits8_1 : decode cX12_fits8 1 = .ok (.istore_n 2, 1) := by decide +kernel
theorem dX12_fits8_2 : decode cX12_fits8 2 = .ok (.aload_n 0, 1) := by decide +kernel
theorem dX12_fits8_3 : decode cX12_fits8 3 = .ok (.getfield 238, 3) := by decide +kernel
theorem dX12_fits8_6 : decode cX12_fits8 6 = .ok (.iconst 0, 1) := by decide +kernel
theorem dX12_fits8_7 : decode cX12_fits8 7 = .ok (.iconst (-1), 1) := by decide +kernel
theorem dX12_fits8_8 : decode cX12_fits8 8 = .ok (.iastore, 1) := by decide +kernel
theorem dX12_fits8_9 : decode cX12_fits8 9 = .ok (.iload_n 2, 1) := by decide +kernel
theorem dX12_fits8_10 : decode cX12_fits8 10 = .ok (.ifCond .lt 86, 3) := by decide +kernel
theorem dX12_fits8_13 : decode cX12_fits8 13 = .ok (.iload_n 2, 1) := by decide +kernel
theorem dX12_fits8_14 : decode cX12_fits8 14 = .ok (.aload_n 0, 1) := by decide +kernel
theorem dX12_fits8_15 : decode cX12_fits8 15 = .ok (.getfield 122, 3) := by decide +kernel
theorem dX12_fits8_18 : decode cX12_fits8 18 = .ok (.aload_n 0, 1) := by decide +kernel
theorem dX12_fits8_19 : decode cX12_fits8 19 = .ok (.getfield 48, 3) := by decide +kernel
theorem dX12_fits8_22 : decode cX12_fits8 22 = .ok (.iaload, 1) := by decide +kernel
theorem dX12_fits8_23 : decode cX12_fits8 23 = .ok (.if_icmp .ge 73, 3) := by decide +kernel
theorem dX12_fits8_96 : decode cX12_fits8 96 = .ok (.iload_n 2, 1) := by decide +kernel
theorem dX12_fits8_97 : decode cX12_fits8 97 = .ok (.ifCond .lt 7, 3) := by decide +kernel
theorem dX12_fits8_100 : decode cX12_fits8 100 = .ok (.iconst 1, 1) := by decide +kernel
theorem dX12_fits8_101 : decode cX12_fits8 101 = .ok (.goto 4, 3) := by decide +kernel
theorem dX12_fits8_105 : decode cX12_fits8 105 = .ok (.ireturn, 1) := by decide +kernel
theorem dX12_fewest_0 : decode cX12_fewest 0 = .ok (.iload_n 1, 1) := by decide +kernel
theorem dX12_fewest_1 : decode cX12_fewest 1 = .ok (.iconst (-1), 1) := by decide +kernel
theorem dX12_fewest_2 : decode cX12_fewest 2 = .ok (.if_icmp .eq 24, 3) := by decide +kernel
theorem dX12_fewest_5 : decode cX12_fewest 5 = .ok (.iload_n 1, 1) := by decide +kernel
theorem dX12_fewest_6 : decode cX12_fewest 6 = .ok (.iconst 0, 1) := by decide +kernel
theorem dX12_fewest_7 : decode cX12_fewest 7 = .ok (.aload_n 0, 1) := by decide +kernel
theorem dX12_fewest_8 : decode cX12_fewest 8 = .ok (.getfield 122, 3) := by decide +kernel
theorem dX12_fewest_11 : decode cX12_fewest 11 = .ok (.aload_n 0, 1) := by decide +kernel
