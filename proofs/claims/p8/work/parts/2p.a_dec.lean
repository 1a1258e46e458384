theorem dX11_lend_0 : decode cX11_lend 0 = .ok (.aload_n 0, 1) := by decide +kernel
theorem dX11_lend_1 : decode cX11_lend 1 = .ok (.aload_n 0, 1) := by decide +kernel
theorem dX11_lend_2 : decode cX11_lend 2 = .ok (.getfield 74, 3) := by decide +kernel
theorem dX11_lend_5 : decode cX11_lend 5 = .ok (.iload_n 1, 1) := by decide +kernel
theorem dX11_lend_6 : decode cX11_lend 6 = .ok (.iload_n 2, 1) := by decide +kernel
theorem dX11_lend_7 : decode cX11_lend 7 = .ok (.iload_n 3, 1) := by decide +kernel
theorem dX11_lend_8 : decode cX11_lend 8 = .ok (.invokevirtual 191, 3) := by decide +kernel
theorem dX11_lend_11 : decode cX11_lend 11 = .ok (.invokevirtual 195, 3) := by decide +kernel
theorem dX11_lend_14 : decode cX11_lend 14 = .ok (.ireturn, 1) := by decide +kernel
theorem dX11_take_0 : decode cX11_take 0 = .ok (.aload_n 0, 1) := by decide +kernel
theorem dX11_take_1 : decode cX11_take 1 = .ok (.aload_n 0, 1) := by decide +kernel
theorem dX11_take_2 : decode cX11_take 2 = .ok (.getfield 74, 3) := by decide +kernel
theorem dX11_take_5 : decode cX11_take 5 = .ok (.iload_n 1, 1) := by decide +kernel
theorem dX11_take_6 : decode cX11_take 6 = .ok (.iload_n 2, 1) := by decide +kernel
theorem dX11_take_7 : decode cX11_take 7 = .ok (.invokevirtual 199, 3) := by decide +kernel
theorem dX11_take_10 : decode cX11_take 10 = .ok (.invokevirtual 195, 3) := by decide +kernel
theorem dX11_take_13 : decode cX11_take 13 = .ok (.ireturn, 1) := by decide +kernel
theorem dX11_lay_0 : decode cX11_lay 0 = .ok (.aload_n 0, 1) := by decide +kernel
theorem dX11_lay_1 : decode cX11_lay 1 = .ok (.aload_n 0, 1) := by decide +kernel
theorem dX11_lay_2 : decode cX11_lay 2 = .ok (.getfield 74, 3) := by decide +kernel
theorem dX11_lay_5 : decode cX11_lay 5 = .ok (.iload_n 1, 1) := by decide +kernel
theorem dX11_lay_6 : decode cX11_lay 6 = .ok (.iload_n 2, 1) := by decide +kernel
theorem dX11_lay_7 : decode cX11_lay 7 = .ok (.iload_n 3, 1) := by decide +kernel
theorem dX11_lay_8 : decode cX11_lay 8 = .ok (.invokevirtual 202, 3) := by decide +kernel
theorem dX11_lay_11 : decode cX11_lay 11 = .ok (.invokevirtual 195, 3) := by decide +kernel
theorem dX11_lay_14 : decode cX11_lay 14 = .ok (.ireturn, 1) := by decide +kernel
theorem dX11_snap_0 : decode cX11_snap 0 = .ok (.aload_n 0, 1) := by decide +kernel
theorem dX11_snap_1 : decode cX11_snap 1 = .ok (.getfield 74, 3) := by decide +kernel
theorem dX11_snap_4 : decode cX11_snap 4 = .ok (.iconst 2, 1) := by decide +kernel
theorem dX11_snap_5 : decode cX11_snap 5 = .ok (.iload_n 1, 1) := by decide +kernel
theorem dX11_snap_6 : decode cX11_snap 6 = .ok (.invokevirtual 125, 3) := by decide +kernel
theorem dX11_snap_9 : decode cX11_snap 9 = .ok (.ifCond .eq 20, 3) := by decide +kernel
theorem dX11_snap_12 : decode cX11_snap 12 = .ok (.aload_n 0, 1) := by decide +kernel
theorem dX11_snap_13 : decode cX11_snap 13 = .ok (.getfield 74, 3) := by decide +kernel
theorem dX11_snap_16 : decode cX11_snap 16 = .ok (.getfield 152, 3) := by decide +kernel
theorem dX11_snap_19 : decode cX11_snap 19 = .ok (.getfield 155, 3) := by decide +kernel
theorem dX11_snap_22 : decode cX11_snap 22 = .ok (.iload_n 1, 1) := by decide +kernel
theorem dX11_snap_23 : decode cX11_snap 23 = .ok (.iaload, 1) := by decide +kernel
theorem dX11_snap_24 : decode cX11_snap 24 = .ok (.bipush 40, 2) := by decide +kernel
theorem dX11_snap_26 : decode cX11_snap 26 = .ok (.if_icmp .ne 9, 3) := by decide +kernel
theorem dX11_snap_29 : decode cX11_snap 29 = .ok (.aload_n 0, 1) := by decide +kernel
theorem dX11_snap_30 : decode cX11_snap 30 = .ok (.iconst 3, 1) := by decide +kernel
theorem dX11_snap_31 : decode cX11_snap 31 = .ok (.invokevirtual 85, 3) := by decide +kernel
theorem dX11_snap_34 : decode cX11_snap 34 = .ok (.ireturn, 1) := by decide +kernel
theorem dX11_snap_35 : decode cX11_snap 35 = .ok (.aload_n 0, 1) := by decide +kernel
theorem dX11_snap_36 : decode cX11_snap 36 = .ok (.getfield 74, 3) := by decide +kernel
theorem dX11_snap_39 : decode cX11_snap 39 = .ok (.getfield 152, 3) := by decide +kernel
theorem dX11_snap_42 : decode cX11_snap 42 = .ok (.getfield 155, 3) := by decide +kernel
theorem dX11_snap_45 : decode cX11_snap 45 = .ok (.iload_n 1, 1) := by decide +kernel
theorem dX11_snap_46 : decode cX11_snap 46 = .ok (.bipush 40, 2) := by decide +kernel
theorem dX11_snap_48 : decode cX11_snap 48 = .ok (.iastore, 1) := by decide +kernel
theorem dX11_snap_49 : decode cX11_snap 49 = .ok (.aload_n 0, 1) := by decide +kernel
theorem dX11_snap_50 : decode cX11_snap 50 = .ok (.getfield 74, 3) := by decide +kernel
theorem dX11_snap_53 : decode cX11_snap 53 = .ok (.getfield 152, 3) := by decide +kernel
theorem dX11_snap_56 : decode cX11_snap 56 = .ok (.getfield 158, 3) := by decide +kernel
theorem dX11_snap_59 : decode cX11_snap 59 = .ok (.iload_n 1, 1) := by decide +kernel
theorem dX11_snap_60 : decode cX11_snap 60 = .ok (.iaload, 1) := by decide +kernel
theorem dX11_snap_61 : decode cX11_snap 61 = .ok (.ireturn, 1) := by decide +kernel
theorem dX11_row_0 : decode cX11_row 0 = .ok (.aload_n 0, 1) := by decide +kernel
theorem dX11_row_1 : decode cX11_row 1 = .ok (.getfield 63, 3) := by decide +kernel
theorem dX11_row_4 : decode cX11_row 4 = .ok (.aload_n 0, 1) := by decide +kernel
theorem dX11_row_5 : decode cX11_row 5 = .ok (.getfield 74, 3) := by decide +kernel
theorem dX11_row_8 : decode cX11_row 8 = .ok (.getfield 152, 3) := by decide +kernel
theorem dX11_row_11 : decode cX11_row 11 = .ok (.invokevirtual 205, 3) := by decide +kernel
theorem dX11_row_14 : decode cX11_row 14 = .ok (.aload_n 0, 1) := by decide +kernel
theorem dX11_row_15 : decode cX11_row 15 = .ok (.invokevirtual 209, 3) := by decide +kernel
theorem dX11_row_18 : decode cX11_row 18 = .ok (.istore_n 1, 1) := by decide +kernel
theorem dX11_row_19 : decode cX11_row 19 = .ok (.aload_n 0, 1) := by decide +kernel
theorem dX11_row_20 : decode cX11_row 20 = .ok (.getfield 74, 3) := by decide +kernel
theorem dX11_row_23 : decode cX11_row 23 = .ok (.getfield 152, 3) := by decide +kernel
theorem dX11_row_26 : decode cX11_row 26 = .ok (.aload_n 0, 1) := by decide +kernel
theorem dX11_row_27 : decode cX11_row 27 = .ok (.getfield 63, 3) := by decide +kernel
theorem dX11_row_30 : decode cX11_row 30 = .ok (.invokevirtual 205, 3) := by decide +kernel
theorem dX11_row_33 : decode cX11_row 33 = .ok (.aload_n 0, 1) := by decide +kernel
theorem dX11_row_34 : decode cX11_row 34 = .ok (.getfield 10, 3) := by decide +kernel
theorem dX11_row_37 : decode cX11_row 37 = .ok (.iconst 0, 1) := by decide +kernel
theorem dX11_row_38 : decode cX11_row 38 = .ok (.putfield 93, 3) := by decide +kernel
theorem dX11_row_41 : decode cX11_row 41 = .ok (.iload_n 1, 1) := by decide +kernel
theorem dX11_row_42 : decode cX11_row 42 = .ok (.ireturn, 1) := by decide +kernel
theorem dX11_reach_0 : decode cX11_reach 0 = .ok (.aload_n 0, 1) := by decide +kernel
theorem dX11_reach_1 : decode cX11_reach 1 = .ok (.getfield 74, 3) := by decide +kernel
theorem dX11_reach_4 : decode cX11_reach 4 = .ok (.iconst 3, 1) := by decide +kernel
theorem dX11_reach_5 : decode cX11_reach 5 = .ok (.iload_n 1, 1) := by decide +kernel
theorem dX11_reach_6 : decode cX11_reach 6 = .ok (.invokevirtual 125, 3) := by decide +kernel
theorem dX11_reach_9 : decode cX11_reach 9 = .ok (.ifCond .eq 15, 3) := by decide +kernel
theorem dX11_reach_12 : decode cX11_reach 12 = .ok (.aload_n 0, 1) := by decide +kernel
theorem dX11_reach_13 : decode cX11_reach 13 = .ok (.getfield 74, 3) := by decide +kernel
theorem dX11_reach_16 : decode cX11_reach 16 = .ok (.iconst 0, 1) := by decide +kernel
theorem dX11_reach_17 : decode cX11_reach 17 = .ok (.iload_n 2, 1) := by decide +kernel
theorem dX11_reach_18 : decode cX11_reach 18 = .ok (.invokevirtual 125, 3) := by decide +kernel
theorem dX11_reach_21 : decode cX11_reach 21 = .ok (.ifCond .ne 5, 3) := by decide +kernel
theorem dX11_reach_24 : decode cX11_reach 24 = .ok (.iconst (-1), 1) := by decide +kernel
theorem dX11_reach_25 : decode cX11_reach 25 = .ok (.ireturn, 1) := by decide +kernel
theorem dX11_reach_26 : decode cX11_reach 26 = .ok (.aload_n 0, 1) := by decide +kernel
theorem dX11_reach_27 : decode cX11_reach 27 = .ok (.getfield 28, 3) := by decide +kernel
theorem dX11_reach_30 : decode cX11_reach 30 = .ok (.aload_n 0, 1) := by decide +kernel
theorem dX11_reach_31 : decode cX11_reach 31 = .ok (.getfield 74, 3) := by decide +kernel
theorem dX11_reach_34 : decode cX11_reach 34 = .ok (.iload_n 1, 1) := by decide +kernel
theorem dX11_reach_35 : decode cX11_reach 35 = .ok (.aload_n 0, 1) := by decide +kernel
theorem dX11_reach_36 : decode cX11_reach 36 = .ok (.getfield 74, 3) := by decide +kernel
theorem dX11_reach_39 : decode cX11_reach 39 = .ok (.iload_n 1, 1) := by decide +kernel
theorem dX11_reach_40 : decode cX11_reach 40 = .ok (.invokevirtual 171, 3) := by decide +kernel
theorem dX11_reach_43 : decode cX11_reach 43 = .ok (.iconst 0, 1) := by decide +kernel
theorem dX11_reach_44 : decode cX11_reach 44 = .ok (.iload_n 2, 1) := by decide +kernel
theorem dX11_reach_45 : decode cX11_reach 45 = .ok (.invokevirtual 212, 3) := by decide +kernel
theorem dX11_reach_48 : decode cX11_reach 48 = .ok (.ireturn, 1) := by decide +kernel
theorem dX11_opens_0 : decode cX11_opens 0 = .ok (.aload_n 0, 1) := by decide +kernel
theorem dX11_opens_1 : decode cX11_opens 1 = .ok (.getfield 74, 3) := by decide +kernel
theorem dX11_opens_4 : decode cX11_opens 4 = .ok (.iconst 3, 1) := by decide +kernel
theorem dX11_opens_5 : decode cX11_opens 5 = .ok (.iload_n 1, 1) := by decide +kernel
theorem dX11_opens_6 : decode cX11_opens 6 = .ok (.invokevirtual 125, 3) := by decide +kernel
theorem dX11_opens_9 : decode cX11_opens 9 = .ok (.ifCond .eq 15, 3) := by decide +kernel
theorem dX11_opens_12 : decode cX11_opens 12 = .ok (.aload_n 0, 1) := by decide +kernel
theorem dX11_opens_13 : decode cX11_opens 13 = .ok (.getfield 74, 3) := by decide +kernel
theorem dX11_opens_16 : decode cX11_opens 16 = .ok (.iconst 1, 1) := by decide +kernel
theorem dX11_opens_17 : decode cX11_opens 17 = .ok (.iload_n 2, 1) := by decide +kernel
theorem dX11_opens_18 : decode cX11_opens 18 = .ok (.invokevirtual 125, 3) := by decide +kernel
theorem dX11_opens_21 : decode cX11_opens 21 = .ok (.ifCond .ne 5, 3) := by decide +kernel
theorem dX11_opens_24 : decode cX11_opens 24 = .ok (.iconst (-1), 1) := by decide +kernel
theorem dX11_opens_25 : decode cX11_opens 25 = .ok (.ireturn, 1) := by decide +kernel
theorem dX11_opens_26 : decode cX11_opens 26 = .ok (.aload_n 0, 1) := by decide +kernel
theorem dX11_opens_27 : decode cX11_opens 27 = .ok (.getfield 28, 3) := by decide +kernel
theorem dX11_opens_30 : decode cX11_opens 30 = .ok (.aload_n 0, 1) := by decide +kernel
theorem dX11_opens_31 : decode cX11_opens 31 = .ok (.getfield 74, 3) := by decide +kernel
theorem dX11_opens_34 : decode cX11_opens 34 = .ok (.iload_n 1, 1) := by decide +kernel
theorem dX11_opens_35 : decode cX11_opens 35 = .ok (.aload_n 0, 1) := by decide +kernel
theorem dX11_opens_36 : decode cX11_opens 36 = .ok (.getfield 74, 3) := by decide +kernel
theorem dX11_opens_39 : decode cX11_opens 39 = .ok (.iload_n 1, 1) := by decide +kernel
theorem dX11_opens_40 : decode cX11_opens 40 = .ok (.invokevirtual 171, 3) := by decide +kernel
theorem dX11_opens_43 : decode cX11_opens 43 = .ok (.iconst 1, 1) := by decide +kernel
theorem dX11_opens_44 : decode cX11_opens 44 = .ok (.iload_n 2, 1) := by decide +kernel
theorem dX11_opens_45 : decode cX11_opens 45 = .ok (.invokevirtual 212, 3) := by decide +kernel
theorem dX11_opens_48 : decode cX11_opens 48 = .ok (.ireturn, 1) := by decide +kernel
theorem dX11_errands_0 : decode cX11_errands 0 = .ok (.aload_n 0, 1) := by decide +kernel
theorem dX11_errands_1 : decode cX11_errands 1 = .ok (.getfield 74, 3) := by decide +kernel
theorem dX11_errands_4 : decode cX11_errands 4 = .ok (.iconst 3, 1) := by decide +kernel
theorem dX11_errands_5 : decode cX11_errands 5 = .ok (.iload_n 1, 1) := by decide +kernel
theorem dX11_errands_6 : decode cX11_errands 6 = .ok (.invokevirtual 125, 3) := by decide +kernel
theorem dX11_errands_9 : decode cX11_errands 9 = .ok (.ifCond .ne 5, 3) := by decide +kernel
theorem dX11_errands_12 : decode cX11_errands 12 = .ok (.iconst (-1), 1) := by decide +kernel
theorem dX11_errands_13 : decode cX11_errands 13 = .ok (.ireturn, 1) := by decide +kernel
theorem dX11_errands_14 : decode cX11_errands 14 = .ok (.aload_n 0, 1) := by decide +kernel
theorem dX11_errands_15 : decode cX11_errands 15 = .ok (.getfield 28, 3) := by decide +kernel
theorem dX11_errands_18 : decode cX11_errands 18 = .ok (.aload_n 0, 1) := by decide +kernel
theorem dX11_errands_19 : decode cX11_errands 19 = .ok (.getfield 74, 3) := by decide +kernel
theorem dX11_errands_22 : decode cX11_errands 22 = .ok (.iload_n 1, 1) := by decide +kernel
theorem dX11_errands_23 : decode cX11_errands 23 = .ok (.aload_n 0, 1) := by decide +kernel
theorem dX11_errands_24 : decode cX11_errands 24 = .ok (.getfield 74, 3) := by decide +kernel
theorem dX11_errands_27 : decode cX11_errands 27 = .ok (.iload_n 1, 1) := by decide +kernel
theorem dX11_errands_28 : decode cX11_errands 28 = .ok (.invokevirtual 171, 3) := by decide +kernel
theorem dX11_errands_31 : decode cX11_errands 31 = .ok (.iconst 2, 1) := by decide +kernel
theorem dX11_errands_32 : decode cX11_errands 32 = .ok (.iconst 0, 1) := by decide +kernel
theorem dX11_errands_33 : decode cX11_errands 33 = .ok (.invokevirtual 212, 3) := by decide +kernel
theorem dX11_errands_36 : decode cX11_errands 36 = .ok (.ireturn, 1) := by decide +kernel
theorem dX11_lent_0 : decode cX11_lent 0 = .ok (.aload_n 0, 1) := by decide +kernel
theorem dX11_lent_1 : decode cX11_lent 1 = .ok (.getfield 74, 3) := by decide +kernel
theorem dX11_lent_4 : decode cX11_lent 4 = .ok (.iconst 3, 1) := by decide +kernel
theorem dX11_lent_5 : decode cX11_lent 5 = .ok (.iload_n 1, 1) := by decide +kernel
theorem dX11_lent_6 : decode cX11_lent 6 = .ok (.invokevirtual 125, 3) := by decide +kernel
theorem dX11_lent_9 : decode cX11_lent 9 = .ok (.ifCond .eq 24, 3) := by decide +kernel
theorem dX11_lent_12 : decode cX11_lent 12 = .ok (.aload_n 0, 1) := by decide +kernel
theorem dX11_lent_13 : decode cX11_lent 13 = .ok (.getfield 74, 3) := by decide +kernel
theorem dX11_lent_16 : decode cX11_lent 16 = .ok (.iconst 0, 1) := by decide +kernel
theorem dX11_lent_17 : decode cX11_lent 17 = .ok (.iload_n 2, 1) := by decide +kernel
theorem dX11_lent_18 : decode cX11_lent 18 = .ok (.invokevirtual 125, 3) := by decide +kernel
theorem dX11_lent_21 : decode cX11_lent 21 = .ok (.ifCond .eq 12, 3) := by decide +kernel
theorem dX11_lent_24 : decode cX11_lent 24 = .ok (.iload_n 3, 1) := by decide +kernel
theorem dX11_lent_25 : decode cX11_lent 25 = .ok (.ifCond .lt 8, 3) := by decide +kernel
theorem dX11_lent_28 : decode cX11_lent 28 = .ok (.iload_n 3, 1) := by decide +kernel
theorem dX11_lent_29 : decode cX11_lent 29 = .ok (.iconst 2, 1) := by decide +kernel
theorem dX11_lent_30 : decode cX11_lent 30 = .ok (.if_icmp .le 5, 3) := by decide +kernel
theorem dX11_lent_33 : decode cX11_lent 33 = .ok (.iconst (-1), 1) := by decide +kernel
theorem dX11_lent_34 : decode cX11_lent 34 = .ok (.ireturn, 1) := by decide +kernel
theorem dX11_lent_35 : decode cX11_lent 35 = .ok (.aload_n 0, 1) := by decide +kernel
theorem dX11_lent_36 : decode cX11_lent 36 = .ok (.getfield 28, 3) := by decide +kernel
theorem dX11_lent_39 : decode cX11_lent 39 = .ok (.aload_n 0, 1) := by decide +kernel
theorem dX11_lent_40 : decode cX11_lent 40 = .ok (.getfield 74, 3) := by decide +kernel
theorem dX11_lent_43 : decode cX11_lent 43 = .ok (.iload_n 1, 1) := by decide +kernel
theorem dX11_lent_44 : decode cX11_lent 44 = .ok (.iload_n 2, 1) := by decide +kernel
theorem dX11_lent_45 : decode cX11_lent 45 = .ok (.invokevirtual 216, 3) := by decide +kernel
theorem dX11_lent_48 : decode cX11_lent 48 = .ok (.istore 4, 2) := by decide +kernel
theorem dX11_lent_50 : decode cX11_lent 50 = .ok (.iload 4, 2) := by decide +kernel
theorem dX11_lent_52 : decode cX11_lent 52 = .ok (.iconst (-1), 1) := by decide +kernel
theorem dX11_lent_53 : decode cX11_lent 53 = .ok (.if_icmp .eq 7, 3) := by decide +kernel
theorem dX11_lent_56 : decode cX11_lent 56 = .ok (.iload_n 3, 1) := by decide +kernel
theorem dX11_lent_57 : decode cX11_lent 57 = .ok (.ifCond .ne 6, 3) := by decide +kernel
theorem dX11_lent_60 : decode cX11_lent 60 = .ok (.iload 4, 2) := by decide +kernel
theorem dX11_lent_62 : decode cX11_lent 62 = .ok (.ireturn, 1) := by decide +kernel
theorem dX11_lent_63 : decode cX11_lent 63 = .ok (.aload_n 0, 1) := by decide +kernel
theorem dX11_lent_64 : decode cX11_lent 64 = .ok (.getfield 28, 3) := by decide +kernel
theorem dX11_lent_67 : decode cX11_lent 67 = .ok (.getfield 220, 3) := by decide +kernel
theorem dX11_lent_70 : decode cX11_lent 70 = .ok (.istore 5, 2) := by decide +kernel
theorem dX11_lent_72 : decode cX11_lent 72 = .ok (.iload_n 3, 1) := by decide +kernel
theorem dX11_lent_73 : decode cX11_lent 73 = .ok (.iconst 1, 1) := by decide +kernel
theorem dX11_lent_74 : decode cX11_lent 74 = .ok (.if_icmp .ne 6, 3) := by decide +kernel
theorem dX11_lent_77 : decode cX11_lent 77 = .ok (.iload 5, 2) := by decide +kernel
theorem dX11_lent_79 : decode cX11_lent 79 = .ok (.ireturn, 1) := by decide +kernel
theorem dX11_lent_80 : decode cX11_lent 80 = .ok (.aload_n 0, 1) := by decide +kernel
theorem dX11_lent_81 : decode cX11_lent 81 = .ok (.getfield 28, 3) := by decide +kernel
theorem dX11_lent_84 : decode cX11_lent 84 = .ok (.aload_n 0, 1) := by decide +kernel
theorem dX11_lent_85 : decode cX11_lent 85 = .ok (.getfield 74, 3) := by decide +kernel
theorem dX11_lent_88 : decode cX11_lent 88 = .ok (.iload_n 1, 1) := by decide +kernel
theorem dX11_lent_89 : decode cX11_lent 89 = .ok (.aload_n 0, 1) := by decide +kernel
theorem dX11_lent_90 : decode cX11_lent 90 = .ok (.getfield 74, 3) := by decide +kernel
theorem dX11_lent_93 : decode cX11_lent 93 = .ok (.iload_n 1, 1) := by decide +kernel
theorem dX11_lent_94 : decode cX11_lent 94 = .ok (.invokevirtual 171, 3) := by decide +kernel
theorem dX11_lent_97 : decode cX11_lent 97 = .ok (.iconst 0, 1) := by decide +kernel
theorem dX11_lent_98 : decode cX11_lent 98 = .ok (.iload_n 2, 1) := by decide +kernel
theorem dX11_lent_99 : decode cX11_lent 99 = .ok (.invokevirtual 212, 3) := by decide +kernel
theorem dX11_lent_102 : decode cX11_lent 102 = .ok (.istore 6, 2) := by decide +kernel
theorem dX11_lent_104 : decode cX11_lent 104 = .ok (.iload 6, 2) := by decide +kernel
theorem dX11_lent_106 : decode cX11_lent 106 = .ok (.iconst (-1), 1) := by decide +kernel
theorem dX11_lent_107 : decode cX11_lent 107 = .ok (.if_icmp .ne 7, 3) := by decide +kernel
theorem dX11_lent_110 : decode cX11_lent 110 = .ok (.iconst (-1), 1) := by decide +kernel
theorem dX11_lent_111 : decode cX11_lent 111 = .ok (.goto 8, 3) := by decide +kernel
theorem dX11_lent_114 : decode cX11_lent 114 = .ok (.iload 6, 2) := by decide +kernel
theorem dX11_lent_116 : decode cX11_lent 116 = .ok (.iload 5, 2) := by decide +kernel
theorem dX11_lent_118 : decode cX11_lent 118 = .ok (.isub, 1) := by decide +kernel
theorem dX11_lent_119 : decode cX11_lent 119 = .ok (.ireturn, 1) := by decide +kernel
theorem dX11_locked_0 : decode cX11_locked 0 = .ok (.iconst 0, 1) := by decide +kernel
theorem dX11_locked_1 : decode cX11_locked 1 = .ok (.istore_n 1, 1) := by decide +kernel
theorem dX11_locked_2 : decode cX11_locked 2 = .ok (.iconst 0, 1) := by decide +kernel
theorem dX11_locked_3 : decode cX11_locked 3 = .ok (.istore_n 2, 1) := by decide +kernel
theorem dX11_locked_4 : decode cX11_locked 4 = .ok (.iload_n 2, 1) := by decide +kernel
theorem dX11_locked_5 : decode cX11_locked 5 = .ok (.aload_n 0, 1) := by decide +kernel
theorem dX11_locked_6 : decode cX11_locked 6 = .ok (.getfield 74, 3) := by decide +kernel
theorem dX11_locked_9 : decode cX11_locked 9 = .ok (.getfield 122, 3) := by decide +kernel
theorem dX11_locked_12 : decode cX11_locked 12 = .ok (.iconst 3, 1) := by decide +kernel
theorem dX11_locked_13 : decode cX11_locked 13 = .ok (.iaload, 1) := by decide +kernel
theorem dX11_locked_14 : decode cX11_locked 14 = .ok (.if_icmp .ge 57, 3) := by decide +kernel
theorem dX11_locked_17 : decode cX11_locked 17 = .ok (.aload_n 0, 1) := by decide +kernel
theorem dX11_locked_18 : decode cX11_locked 18 = .ok (.getfield 74, 3) := by decide +kernel
theorem dX11_locked_21 : decode cX11_locked 21 = .ok (.getfield 152, 3) := by decide +kernel
theorem dX11_locked_24 : decode cX11_locked 24 = .ok (.getfield 168, 3) := by decide +kernel
theorem dX11_locked_27 : decode cX11_locked 27 = .ok (.iload_n 2, 1) := by decide +kernel
theorem dX11_locked_28 : decode cX11_locked 28 = .ok (.iaload, 1) := by decide +kernel
theorem dX11_locked_29 : decode cX11_locked 29 = .ok (.istore_n 3, 1) := by decide +kernel
theorem dX11_locked_30 : decode cX11_locked 30 = .ok (.aload_n 0, 1) := by decide +kernel
theorem dX11_locked_31 : decode cX11_locked 31 = .ok (.getfield 74, 3) := by decide +kernel
theorem dX11_locked_34 : decode cX11_locked 34 = .ok (.iload_n 3, 1) := by decide +kernel
theorem dX11_locked_35 : decode cX11_locked 35 = .ok (.invokevirtual 223, 3) := by decide +kernel
theorem dX11_locked_38 : decode cX11_locked 38 = .ok (.ifCond .eq 27, 3) := by decide +kernel
theorem dX11_locked_41 : decode cX11_locked 41 = .ok (.aload_n 0, 1) := by decide +kernel
theorem dX11_locked_42 : decode cX11_locked 42 = .ok (.getfield 28, 3) := by decide +kernel
theorem dX11_locked_45 : decode cX11_locked 45 = .ok (.aload_n 0, 1) := by decide +kernel
theorem dX11_locked_46 : decode cX11_locked 46 = .ok (.getfield 74, 3) := by decide +kernel
theorem dX11_locked_49 : decode cX11_locked 49 = .ok (.iload_n 2, 1) := by decide +kernel
theorem dX11_locked_50 : decode cX11_locked 50 = .ok (.invokevirtual 174, 3) := by decide +kernel
theorem dX11_locked_53 : decode cX11_locked 53 = .ok (.iconst 1, 1) := by decide +kernel
theorem dX11_locked_54 : decode cX11_locked 54 = .ok (.iload_n 3, 1) := by decide +kernel
theorem dX11_locked_55 : decode cX11_locked 55 = .ok (.ishl, 1) := by decide +kernel
theorem dX11_locked_56 : decode cX11_locked 56 = .ok (.if_icmp .ne 9, 3) := by decide +kernel
theorem dX11_locked_59 : decode cX11_locked 59 = .ok (.iload_n 1, 1) := by decide +kernel
theorem dX11_locked_60 : decode cX11_locked 60 = .ok (.iconst 1, 1) := by decide +kernel
theorem dX11_locked_61 : decode cX11_locked 61 = .ok (.iload_n 2, 1) := by decide +kernel
theorem dX11_locked_62 : decode cX11_locked 62 = .ok (.ishl, 1) := by decide +kernel
theorem dX11_locked_63 : decode cX11_locked 63 = .ok (.ior, 1) := by decide +kernel
theorem dX11_locked_64 : decode cX11_locked 64 = .ok (.istore_n 1, 1) := by decide +kernel
theorem dX11_locked_65 : decode cX11_locked 65 = .ok (.iinc 2 1, 3) := by decide +kernel
theorem dX11_locked_68 : decode cX11_locked 68 = .ok (.goto (-64), 3) := by decide +kernel
theorem dX11_locked_71 : decode cX11_locked 71 = .ok (.iload_n 1, 1) := by decide +kernel
theorem dX11_locked_72 : decode cX11_locked 72 = .ok (.ireturn, 1) := by decide +kernel
theorem dX11_can_0 : decode cX11_can 0 = .ok (.aload_n 0, 1) := by decide +kernel
theorem dX11_can_1 : decode cX11_can 1 = .ok (.getfield 74, 3) := by decide +kernel
theorem dX11_can_4 : decode cX11_can 4 = .ok (.iconst 1, 1) := by decide +kernel
theorem dX11_can_5 : decode cX11_can 5 = .ok (.iload_n 2, 1) := by decide +kernel
theorem dX11_can_6 : decode cX11_can 6 = .ok (.invokevirtual 125, 3) := by decide +kernel
theorem dX11_can_9 : decode cX11_can 9 = .ok (.ifCond .eq 22, 3) := by decide +kernel
theorem dX11_can_12 : decode cX11_can 12 = .ok (.iload_n 1, 1) := by decide +kernel
theorem dX11_can_13 : decode cX11_can 13 = .ok (.ifCond .lt 18, 3) := by decide +kernel
theorem dX11_can_16 : decode cX11_can 16 = .ok (.iload_n 1, 1) := by decide +kernel
theorem dX11_can_17 : decode cX11_can 17 = .ok (.iconst 1, 1) := by decide +kernel
theorem dX11_can_18 : decode cX11_can 18 = .ok (.aload_n 0, 1) := by decide +kernel
theorem dX11_can_19 : decode cX11_can 19 = .ok (.getfield 74, 3) := by decide +kernel
theorem dX11_can_22 : decode cX11_can 22 = .ok (.getfield 122, 3) := by decide +kernel
theorem dX11_can_25 : decode cX11_can 25 = .ok (.iconst 3, 1) := by decide +kernel
theorem dX11_can_26 : decode cX11_can 26 = .ok (.iaload, 1) := by decide +kernel
theorem dX11_can_27 : decode cX11_can 27 = .ok (.ishl, 1) := by decide +kernel
theorem dX11_can_28 : decode cX11_can 28 = .ok (.if_icmp .lt 5, 3) := by decide +kernel
theorem dX11_can_31 : decode cX11_can 31 = .ok (.iconst (-1), 1) := by decide +kernel
theorem dX11_can_32 : decode cX11_can 32 = .ok (.ireturn, 1) := by decide +kernel
theorem dX11_can_33 : decode cX11_can 33 = .ok (.aload_n 0, 1) := by decide +kernel
theorem dX11_can_34 : decode cX11_can 34 = .ok (.getfield 74, 3) := by decide +kernel
theorem dX11_can_37 : decode cX11_can 37 = .ok (.iload_n 2, 1) := by decide +kernel
theorem dX11_can_38 : decode cX11_can 38 = .ok (.invokevirtual 226, 3) := by decide +kernel
theorem dX11_can_41 : decode cX11_can 41 = .ok (.istore_n 3, 1) := by decide +kernel
theorem dX11_can_42 : decode cX11_can 42 = .ok (.iload_n 3, 1) := by decide +kernel
theorem dX11_can_43 : decode cX11_can 43 = .ok (.iconst (-1), 1) := by decide +kernel
theorem dX11_can_44 : decode cX11_can 44 = .ok (.if_icmp .eq 15, 3) := by decide +kernel
theorem dX11_can_47 : decode cX11_can 47 = .ok (.iload_n 3, 1) := by decide +kernel
theorem dX11_can_48 : decode cX11_can 48 = .ok (.iload_n 1, 1) := by decide +kernel
theorem dX11_can_49 : decode cX11_can 49 = .ok (.iconst (-1), 1) := by decide +kernel
theorem dX11_can_50 : decode cX11_can 50 = .ok (.ixor, 1) := by decide +kernel
theorem dX11_can_51 : decode cX11_can 51 = .ok (.iand, 1) := by decide +kernel
theorem dX11_can_52 : decode cX11_can 52 = .ok (.ifCond .ne 7, 3) := by decide +kernel
theorem dX11_can_55 : decode cX11_can 55 = .ok (.iconst 1, 1) := by decide +kernel
theorem dX11_can_56 : decode cX11_can 56 = .ok (.goto 4, 3) := by decide +kernel
theorem dX11_can_59 : decode cX11_can 59 = .ok (.iconst 0, 1) := by decide +kernel
theorem dX11_can_60 : decode cX11_can 60 = .ok (.ireturn, 1) := by decide +kernel
theorem dX11_needs_0 : decode cX11_needs 0 = .ok (.aload_n 0, 1) := by decide +kernel
theorem dX11_needs_1 : decode cX11_needs 1 = .ok (.getfield 74, 3) := by decide +kernel
theorem dX11_needs_4 : decode cX11_needs 4 = .ok (.iconst 1, 1) := by decide +kernel
theorem dX11_needs_5 : decode cX11_needs 5 = .ok (.iload_n 1, 1) := by decide +kernel
theorem dX11_needs_6 : decode cX11_needs 6 = .ok (.invokevirtual 125, 3) := by decide +kernel
theorem dX11_needs_9 : decode cX11_needs 9 = .ok (.ifCond .eq 12, 3) := by decide +kernel
theorem dX11_needs_12 : decode cX11_needs 12 = .ok (.iload_n 2, 1) := by decide +kernel
theorem dX11_needs_13 : decode cX11_needs 13 = .ok (.ifCond .lt 8, 3) := by decide +kernel
theorem dX11_needs_16 : decode cX11_needs 16 = .ok (.iload_n 2, 1) := by decide +kernel
theorem dX11_needs_17 : decode cX11_needs 17 = .ok (.iconst 1, 1) := by decide +kernel
theorem dX11_needs_18 : decode cX11_needs 18 = .ok (.if_icmp .le 5, 3) := by decide +kernel
theorem dX11_needs_21 : decode cX11_needs 21 = .ok (.iconst (-1), 1) := by decide +kernel
theorem dX11_needs_22 : decode cX11_needs 22 = .ok (.ireturn, 1) := by decide +kernel
theorem dX11_needs_23 : decode cX11_needs 23 = .ok (.aload_n 0, 1) := by decide +kernel
theorem dX11_needs_24 : decode cX11_needs 24 = .ok (.getfield 74, 3) := by decide +kernel
theorem dX11_needs_27 : decode cX11_needs 27 = .ok (.iload_n 1, 1) := by decide +kernel
theorem dX11_needs_28 : decode cX11_needs 28 = .ok (.invokevirtual 226, 3) := by decide +kernel
theorem dX11_needs_31 : decode cX11_needs 31 = .ok (.istore_n 3, 1) := by decide +kernel
theorem dX11_needs_32 : decode cX11_needs 32 = .ok (.iload_n 3, 1) := by decide +kernel
theorem dX11_needs_33 : decode cX11_needs 33 = .ok (.iconst (-1), 1) := by decide +kernel
theorem dX11_needs_34 : decode cX11_needs 34 = .ok (.if_icmp .ne 5, 3) := by decide +kernel
theorem dX11_needs_37 : decode cX11_needs 37 = .ok (.iconst (-1), 1) := by decide +kernel
theorem dX11_needs_38 : decode cX11_needs 38 = .ok (.ireturn, 1) := by decide +kernel
theorem dX11_needs_39 : decode cX11_needs 39 = .ok (.iload_n 2, 1) := by decide +kernel
theorem dX11_needs_40 : decode cX11_needs 40 = .ok (.ifCond .ne 10, 3) := by decide +kernel
theorem dX11_needs_43 : decode cX11_needs 43 = .ok (.iload_n 3, 1) := by decide +kernel
theorem dX11_needs_44 : decode cX11_needs 44 = .ok (.invokestatic 114, 3) := by decide +kernel
theorem dX11_needs_47 : decode cX11_needs 47 = .ok (.goto 11, 3) := by decide +kernel
theorem dX11_needs_50 : decode cX11_needs 50 = .ok (.aload_n 0, 1) := by decide +kernel
theorem dX11_needs_51 : decode cX11_needs 51 = .ok (.getfield 74, 3) := by decide +kernel
theorem dX11_needs_54 : decode cX11_needs 54 = .ok (.iload_n 1, 1) := by decide +kernel
theorem dX11_needs_55 : decode cX11_needs 55 = .ok (.invokevirtual 229, 3) := by decide +kernel
theorem dX11_needs_58 : decode cX11_needs 58 = .ok (.ireturn, 1) := by decide +kernel
theorem dX11_handingAnswer_0 : decode cX11_handingAnswer 0 = .ok (.iload_n 1, 1) := by decide +kernel
theorem dX11_handingAnswer_1 : decode cX11_handingAnswer 1 = .ok (.ifCond .ne 9, 3) := by decide +kernel
theorem dX11_handingAnswer_4 : decode cX11_handingAnswer 4 = .ok (.aload_n 0, 1) := by decide +kernel
theorem dX11_handingAnswer_5 : decode cX11_handingAnswer 5 = .ok (.iconst 3, 1) := by decide +kernel
theorem dX11_handingAnswer_6 : decode cX11_handingAnswer 6 = .ok (.invokevirtual 85, 3) := by decide +kernel
theorem dX11_handingAnswer_9 : decode cX11_handingAnswer 9 = .ok (.pop, 1) := by decide +kernel
theorem dX11_handingAnswer_10 : decode cX11_handingAnswer 10 = .ok (.iload_n 1, 1) := by decide +kernel
theorem dX11_handingAnswer_11 : decode cX11_handingAnswer 11 = .ok (.ireturn, 1) := by decide +kernel
theorem dX11_firstImpossible_0 : decode cX11_firstImpossible 0 = .ok (.iconst 0, 1) := by decide +kernel
theorem dX11_firstImpossible_1 : decode cX11_firstImpossible 1 = .ok (.istore_n 1, 1) := by decide +kernel
theorem dX11_firstImpossible_2 : decode cX11_firstImpossible 2 = .ok (.iconst 0, 1) := by decide +kernel
theorem dX11_firstImpossible_3 : decode cX11_firstImpossible 3 = .ok (.istore_n 2, 1) := by decide +kernel
theorem dX11_firstImpossible_4 : decode cX11_firstImpossible 4 = .ok (.iload_n 2, 1) := by decide +kernel
theorem dX11_firstImpossible_5 : decode cX11_firstImpossible 5 = .ok (.aload_n 0, 1) := by decide +kernel
theorem dX11_firstImpossible_6 : decode cX11_firstImpossible 6 = .ok (.getfield 10, 3) := by decide +kernel
theorem dX11_firstImpossible_9 : decode cX11_firstImpossible 9 = .ok (.getfield 93, 3) := by decide +kernel
theorem dX11_firstImpossible_12 : decode cX11_firstImpossible 12 = .ok (.if_icmp .ge 68, 3) := by decide +kernel
theorem dX11_firstImpossible_15 : decode cX11_firstImpossible 15 = .ok (.iload_n 2, 1) := by decide +kernel
theorem dX11_firstImpossible_16 : decode cX11_firstImpossible 16 = .ok (.iconst 3, 1) := by decide +kernel
theorem dX11_firstImpossible_17 : decode cX11_firstImpossible 17 = .ok (.iadd, 1) := by decide +kernel
theorem dX11_firstImpossible_18 : decode cX11_firstImpossible 18 = .ok (.aload_n 0, 1) := by decide +kernel
theorem dX11_firstImpossible_19 : decode cX11_firstImpossible 19 = .ok (.getfield 10, 3) := by decide +kernel
theorem dX11_firstImpossible_22 : decode cX11_firstImpossible 22 = .ok (.getfield 93, 3) := by decide +kernel
theorem dX11_firstImpossible_25 : decode cX11_firstImpossible 25 = .ok (.if_icmp .le 5, 3) := by decide +kernel
theorem dX11_firstImpossible_28 : decode cX11_firstImpossible 28 = .ok (.iload_n 1, 1) := by decide +kernel
theorem dX11_firstImpossible_29 : decode cX11_firstImpossible 29 = .ok (.ireturn, 1) := by decide +kernel
theorem dX11_firstImpossible_30 : decode cX11_firstImpossible 30 = .ok (.aload_n 0, 1) := by decide +kernel
theorem dX11_firstImpossible_31 : decode cX11_firstImpossible 31 = .ok (.getfield 74, 3) := by decide +kernel
theorem dX11_firstImpossible_34 : decode cX11_firstImpossible 34 = .ok (.aload_n 0, 1) := by decide +kernel
theorem dX11_firstImpossible_35 : decode cX11_firstImpossible 35 = .ok (.getfield 10, 3) := by decide +kernel
theorem dX11_firstImpossible_38 : decode cX11_firstImpossible 38 = .ok (.iload_n 2, 1) := by decide +kernel
theorem dX11_firstImpossible_39 : decode cX11_firstImpossible 39 = .ok (.invokevirtual 277, 3) := by decide +kernel
theorem dX11_firstImpossible_42 : decode cX11_firstImpossible 42 = .ok (.aload_n 0, 1) := by decide +kernel
theorem dX11_firstImpossible_43 : decode cX11_firstImpossible 43 = .ok (.getfield 10, 3) := by decide +kernel
theorem dX11_firstImpossible_46 : decode cX11_firstImpossible 46 = .ok (.iload_n 2, 1) := by decide +kernel
theorem dX11_firstImpossible_47 : decode cX11_firstImpossible 47 = .ok (.iconst 1, 1) := by decide +kernel
theorem dX11_firstImpossible_48 : decode cX11_firstImpossible 48 = .ok (.iadd, 1) := by decide +kernel
theorem dX11_firstImpossible_49 : decode cX11_firstImpossible 49 = .ok (.invokevirtual 277, 3) := by decide +kernel
theorem dX11_firstImpossible_52 : decode cX11_firstImpossible 52 = .ok (.aload_n 0, 1) := by decide +kernel
theorem dX11_firstImpossible_53 : decode cX11_firstImpossible 53 = .ok (.getfield 10, 3) := by decide +kernel
theorem dX11_firstImpossible_56 : decode cX11_firstImpossible 56 = .ok (.iload_n 2, 1) := by decide +kernel
theorem dX11_firstImpossible_57 : decode cX11_firstImpossible 57 = .ok (.iconst 2, 1) := by decide +kernel
theorem dX11_firstImpossible_58 : decode cX11_firstImpossible 58 = .ok (.iadd, 1) := by decide +kernel
theorem dX11_firstImpossible_59 : decode cX11_firstImpossible 59 = .ok (.invokevirtual 277, 3) := by decide +kernel
theorem dX11_firstImpossible_62 : decode cX11_firstImpossible 62 = .ok (.invokevirtual 280, 3) := by decide +kernel
theorem dX11_firstImpossible_65 : decode cX11_firstImpossible 65 = .ok (.iconst (-1), 1) := by decide +kernel
theorem dX11_firstImpossible_66 : decode cX11_firstImpossible 66 = .ok (.if_icmp .ne 5, 3) := by decide +kernel
theorem dX11_firstImpossible_69 : decode cX11_firstImpossible 69 = .ok (.iload_n 1, 1) := by decide +kernel
theorem dX11_firstImpossible_70 : decode cX11_firstImpossible 70 = .ok (.ireturn, 1) := by decide +kernel
theorem dX11_firstImpossible_71 : decode cX11_firstImpossible 71 = .ok (.iinc 1 1, 3) := by decide +kernel
theorem dX11_firstImpossible_74 : decode cX11_firstImpossible 74 = .ok (.iinc 2 3, 3) := by decide +kernel
theorem dX11_firstImpossible_77 : decode cX11_firstImpossible 77 = .ok (.goto (-73), 3) := by decide +kernel
theorem dX11_firstImpossible_80 : decode cX11_firstImpossible 80 = .ok (.iconst (-1), 1) := by decide +kernel
theorem dX11_firstImpossible_81 : decode cX11_firstImpossible 81 = .ok (.ireturn, 1) := by decide +kernel
