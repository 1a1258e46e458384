theorem dX12_placesOf_0 : decode cX12_placesOf 0 = .ok (.aload_n 0, 1) := by decide +kernel
theorem dX12_placesOf_1 : decode cX12_placesOf 1 = .ok (.iload_n 1, 1) := by decide +kernel
theorem dX12_placesOf_2 : decode cX12_placesOf 2 = .ok (.aload_n 0, 1) := by decide +kernel
theorem dX12_placesOf_3 : decode cX12_placesOf 3 = .ok (.iload_n 1, 1) := by decide +kernel
theorem dX12_placesOf_4 : decode cX12_placesOf 4 = .ok (.invokevirtual 526, 3) := by decide +kernel
theorem dX12_placesOf_7 : decode cX12_placesOf 7 = .ok (.iconst 0, 1) := by decide +kernel
theorem dX12_placesOf_8 : decode cX12_placesOf 8 = .ok (.invokevirtual 587, 3) := by decide +kernel
theorem dX12_placesOf_11 : decode cX12_placesOf 11 = .ok (.iconst 0, 1) := by decide +kernel
theorem dX12_placesOf_12 : decode cX12_placesOf 12 = .ok (.istore_n 2, 1) := by decide +kernel
theorem dX12_placesOf_13 : decode cX12_placesOf 13 = .ok (.iconst 0, 1) := by decide +kernel
theorem dX12_placesOf_14 : decode cX12_placesOf 14 = .ok (.istore_n 3, 1) := by decide +kernel
theorem dX12_placesOf_15 : decode cX12_placesOf 15 = .ok (.iload_n 3, 1) := by decide +kernel
theorem dX12_placesOf_16 : decode cX12_placesOf 16 = .ok (.aload_n 0, 1) := by decide +kernel
theorem dX12_placesOf_17 : decode cX12_placesOf 17 = .ok (.getfield 214, 3) := by decide +kernel
theorem dX12_placesOf_20 : decode cX12_placesOf 20 = .ok (.if_icmp .ge 28, 3) := by decide +kernel
theorem dX12_placesOf_23 : decode cX12_placesOf 23 = .ok (.aload_n 0, 1) := by decide +kernel
theorem dX12_placesOf_24 : decode cX12_placesOf 24 = .ok (.aload_n 0, 1) := by decide +kernel
theorem dX12_placesOf_25 : decode cX12_placesOf 25 = .ok (.getfield 211, 3) := by decide +kernel
theorem dX12_placesOf_28 : decode cX12_placesOf 28 = .ok (.iload_n 3, 1) := by decide +kernel
theorem dX12_placesOf_29 : decode cX12_placesOf 29 = .ok (.iaload, 1) := by decide +kernel
theorem dX12_placesOf_30 : decode cX12_placesOf 30 = .ok (.invokevirtual 581, 3) := by decide +kernel
theorem dX12_placesOf_33 : decode cX12_placesOf 33 = .ok (.iload_n 2, 1) := by decide +kernel
theorem dX12_placesOf_34 : decode cX12_placesOf 34 = .ok (.iconst 1, 1) := by decide +kernel
theorem dX12_placesOf_35 : decode cX12_placesOf 35 = .ok (.aload_n 0, 1) := by decide +kernel
theorem dX12_placesOf_36 : decode cX12_placesOf 36 = .ok (.getfield 217, 3) := by decide +kernel
theorem dX12_placesOf_39 : decode cX12_placesOf 39 = .ok (.ishl, 1) := by decide +kernel
theorem dX12_placesOf_40 : decode cX12_placesOf 40 = .ok (.ior, 1) := by decide +kernel
theorem dX12_placesOf_41 : decode cX12_placesOf 41 = .ok (.istore_n 2, 1) := by decide +kernel
theorem dX12_placesOf_42 : decode cX12_placesOf 42 = .ok (.iinc 3 1, 3) := by decide +kernel
theorem dX12_placesOf_45 : decode cX12_placesOf 45 = .ok (.goto (-30), 3) := by decide +kernel
theorem dX12_placesOf_48 : decode cX12_placesOf 48 = .ok (.iload_n 2, 1) := by decide +kernel
theorem dX12_placesOf_49 : decode cX12_placesOf 49 = .ok (.ireturn, 1) := by decide +kernel
theorem dX12_person__0 : decode cX12_person_ 0 = .ok (.aload_n 0, 1) := by decide +kernel
theorem dX12_person__1 : decode cX12_person_ 1 = .ok (.iload_n 1, 1) := by decide +kernel
theorem dX12_person__2 : decode cX12_person_ 2 = .ok (.invokevirtual 539, 3) := by decide +kernel
theorem dX12_person__5 : decode cX12_person_ 5 = .ok (.ifCond .ne 5, 3) := by decide +kernel
theorem dX12_person__8 : decode cX12_person_ 8 = .ok (.iconst (-1), 1) := by decide +kernel
theorem dX12_person__9 : decode cX12_person_ 9 = .ok (.ireturn, 1) := by decide +kernel
theorem dX12_person__10 : decode cX12_person_ 10 = .ok (.iload_n 2, 1) := by decide +kernel
theorem dX12_person__11 : decode cX12_person_ 11 = .ok (.tableswitch 56 0 3 #[29, 35, 41, 50], 29) := by decide +kernel
theorem dX12_person__40 : decode cX12_person_ 40 = .ok (.aload_n 0, 1) := by decide +kernel
theorem dX12_person__41 : decode cX12_person_ 41 = .ok (.iload_n 1, 1) := by decide +kernel
theorem dX12_person__42 : decode cX12_person_ 42 = .ok (.invokevirtual 520, 3) := by decide +kernel
theorem dX12_person__45 : decode cX12_person_ 45 = .ok (.ireturn, 1) := by decide +kernel
theorem dX12_person__46 : decode cX12_person_ 46 = .ok (.aload_n 0, 1) := by decide +kernel
theorem dX12_person__47 : decode cX12_person_ 47 = .ok (.iload_n 1, 1) := by decide +kernel
theorem dX12_person__48 : decode cX12_person_ 48 = .ok (.invokevirtual 526, 3) := by decide +kernel
theorem dX12_person__51 : decode cX12_person_ 51 = .ok (.ireturn, 1) := by decide +kernel
theorem dX12_person__52 : decode cX12_person_ 52 = .ok (.aload_n 0, 1) := by decide +kernel
theorem dX12_person__53 : decode cX12_person_ 53 = .ok (.iload_n 1, 1) := by decide +kernel
theorem dX12_person__54 : decode cX12_person_ 54 = .ok (.invokevirtual 591, 3) := by decide +kernel
theorem dX12_person__57 : decode cX12_person_ 57 = .ok (.invokestatic 529, 3) := by decide +kernel
theorem dX12_person__60 : decode cX12_person_ 60 = .ok (.ireturn, 1) := by decide +kernel
theorem dX12_person__61 : decode cX12_person_ 61 = .ok (.aload_n 0, 1) := by decide +kernel
theorem dX12_person__62 : decode cX12_person_ 62 = .ok (.iload_n 1, 1) := by decide +kernel
theorem dX12_person__63 : decode cX12_person_ 63 = .ok (.invokevirtual 591, 3) := by decide +kernel
theorem dX12_person__66 : decode cX12_person_ 66 = .ok (.ireturn, 1) := by decide +kernel
theorem dX12_person__67 : decode cX12_person_ 67 = .ok (.iconst (-1), 1) := by decide +kernel
theorem dX12_person__68 : decode cX12_person_ 68 = .ok (.ireturn, 1) := by decide +kernel
theorem dX12_reach_0 : decode cX12_reach 0 = .ok (.aload_n 0, 1) := by decide +kernel
theorem dX12_reach_1 : decode cX12_reach 1 = .ok (.iload_n 1, 1) := by decide +kernel
theorem dX12_reach_2 : decode cX12_reach 2 = .ok (.invokevirtual 539, 3) := by decide +kernel
theorem dX12_reach_5 : decode cX12_reach 5 = .ok (.ifCond .eq 11, 3) := by decide +kernel
theorem dX12_reach_8 : decode cX12_reach 8 = .ok (.aload_n 0, 1) := by decide +kernel
theorem dX12_reach_9 : decode cX12_reach 9 = .ok (.iload_n 2, 1) := by decide +kernel
theorem dX12_reach_10 : decode cX12_reach 10 = .ok (.invokevirtual 594, 3) := by decide +kernel
theorem dX12_reach_13 : decode cX12_reach 13 = .ok (.ifCond .ne 5, 3) := by decide +kernel
theorem dX12_reach_16 : decode cX12_reach 16 = .ok (.iconst (-1), 1) := by decide +kernel
theorem dX12_reach_17 : decode cX12_reach 17 = .ok (.ireturn, 1) := by decide +kernel
theorem dX12_reach_18 : decode cX12_reach 18 = .ok (.aload_n 0, 1) := by decide +kernel
theorem dX12_reach_19 : decode cX12_reach 19 = .ok (.iload_n 1, 1) := by decide +kernel
theorem dX12_reach_20 : decode cX12_reach 20 = .ok (.aload_n 0, 1) := by decide +kernel
theorem dX12_reach_21 : decode cX12_reach 21 = .ok (.iload_n 1, 1) := by decide +kernel
theorem dX12_reach_22 : decode cX12_reach 22 = .ok (.invokevirtual 526, 3) := by decide +kernel
theorem dX12_reach_25 : decode cX12_reach 25 = .ok (.iconst 0, 1) := by decide +kernel
theorem dX12_reach_26 : decode cX12_reach 26 = .ok (.invokevirtual 587, 3) := by decide +kernel
theorem dX12_reach_29 : decode cX12_reach 29 = .ok (.aload_n 0, 1) := by decide +kernel
theorem dX12_reach_30 : decode cX12_reach 30 = .ok (.iload_n 2, 1) := by decide +kernel
theorem dX12_reach_31 : decode cX12_reach 31 = .ok (.invokevirtual 597, 3) := by decide +kernel
theorem dX12_reach_34 : decode cX12_reach 34 = .ok (.ireturn, 1) := by decide +kernel
theorem dX12_opens__0 : decode cX12_opens_ 0 = .ok (.aload_n 0, 1) := by decide +kernel
theorem dX12_opens__1 : decode cX12_opens_ 1 = .ok (.iload_n 1, 1) := by decide +kernel
theorem dX12_opens__2 : decode cX12_opens_ 2 = .ok (.invokevirtual 539, 3) := by decide +kernel
theorem dX12_opens__5 : decode cX12_opens_ 5 = .ok (.ifCond .eq 11, 3) := by decide +kernel
theorem dX12_opens__8 : decode cX12_opens_ 8 = .ok (.aload_n 0, 1) := by decide +kernel
theorem dX12_opens__9 : decode cX12_opens_ 9 = .ok (.iload_n 2, 1) := by decide +kernel
theorem dX12_opens__10 : decode cX12_opens_ 10 = .ok (.invokevirtual 507, 3) := by decide +kernel
theorem dX12_opens__13 : decode cX12_opens_ 13 = .ok (.ifCond .ne 5, 3) := by decide +kernel
theorem dX12_opens__16 : decode cX12_opens_ 16 = .ok (.iconst (-1), 1) := by decide +kernel
theorem dX12_opens__17 : decode cX12_opens_ 17 = .ok (.ireturn, 1) := by decide +kernel
theorem dX12_opens__18 : decode cX12_opens_ 18 = .ok (.aload_n 0, 1) := by decide +kernel
theorem dX12_opens__19 : decode cX12_opens_ 19 = .ok (.iload_n 1, 1) := by decide +kernel
theorem dX12_opens__20 : decode cX12_opens_ 20 = .ok (.aload_n 0, 1) := by decide +kernel
theorem dX12_opens__21 : decode cX12_opens_ 21 = .ok (.iload_n 1, 1) := by decide +kernel
theorem dX12_opens__22 : decode cX12_opens_ 22 = .ok (.invokevirtual 526, 3) := by decide +kernel
theorem dX12_opens__25 : decode cX12_opens_ 25 = .ok (.iconst 0, 1) := by decide +kernel
theorem dX12_opens__26 : decode cX12_opens_ 26 = .ok (.invokevirtual 587, 3) := by decide +kernel
theorem dX12_opens__29 : decode cX12_opens_ 29 = .ok (.iconst 0, 1) := by decide +kernel
theorem dX12_opens__30 : decode cX12_opens_ 30 = .ok (.istore_n 3, 1) := by decide +kernel
theorem dX12_opens__31 : decode cX12_opens_ 31 = .ok (.iload_n 3, 1) := by decide +kernel
theorem dX12_opens__32 : decode cX12_opens_ 32 = .ok (.aload_n 0, 1) := by decide +kernel
theorem dX12_opens__33 : decode cX12_opens_ 33 = .ok (.getfield 214, 3) := by decide +kernel
theorem dX12_opens__36 : decode cX12_opens_ 36 = .ok (.if_icmp .ge 39, 3) := by decide +kernel
theorem dX12_opens__39 : decode cX12_opens_ 39 = .ok (.aload_n 0, 1) := by decide +kernel
theorem dX12_opens__40 : decode cX12_opens_ 40 = .ok (.aload_n 0, 1) := by decide +kernel
theorem dX12_opens__41 : decode cX12_opens_ 41 = .ok (.getfield 211, 3) := by decide +kernel
theorem dX12_opens__44 : decode cX12_opens_ 44 = .ok (.iload_n 3, 1) := by decide +kernel
theorem dX12_opens__45 : decode cX12_opens_ 45 = .ok (.iaload, 1) := by decide +kernel
theorem dX12_opens__46 : decode cX12_opens_ 46 = .ok (.invokevirtual 581, 3) := by decide +kernel
theorem dX12_opens__49 : decode cX12_opens_ 49 = .ok (.aload_n 0, 1) := by decide +kernel
theorem dX12_opens__50 : decode cX12_opens_ 50 = .ok (.iload_n 2, 1) := by decide +kernel
theorem dX12_opens__51 : decode cX12_opens_ 51 = .ok (.invokevirtual 567, 3) := by decide +kernel
theorem dX12_opens__54 : decode cX12_opens_ 54 = .ok (.ifCond .ne 15, 3) := by decide +kernel
theorem dX12_opens__57 : decode cX12_opens_ 57 = .ok (.aload_n 0, 1) := by decide +kernel
theorem dX12_opens__58 : decode cX12_opens_ 58 = .ok (.getfield 208, 3) := by decide +kernel
theorem dX12_opens__61 : decode cX12_opens_ 61 = .ok (.aload_n 0, 1) := by decide +kernel
theorem dX12_opens__62 : decode cX12_opens_ 62 = .ok (.getfield 211, 3) := by decide +kernel
theorem dX12_opens__65 : decode cX12_opens_ 65 = .ok (.iload_n 3, 1) := by decide +kernel
theorem dX12_opens__66 : decode cX12_opens_ 66 = .ok (.iaload, 1) := by decide +kernel
theorem dX12_opens__67 : decode cX12_opens_ 67 = .ok (.iaload, 1) := by decide +kernel
theorem dX12_opens__68 : decode cX12_opens_ 68 = .ok (.ireturn, 1) := by decide +kernel
theorem dX12_opens__69 : decode cX12_opens_ 69 = .ok (.iinc 3 1, 3) := by decide +kernel
theorem dX12_opens__72 : decode cX12_opens_ 72 = .ok (.goto (-41), 3) := by decide +kernel
theorem dX12_opens__75 : decode cX12_opens_ 75 = .ok (.iconst (-1), 1) := by decide +kernel
theorem dX12_opens__76 : decode cX12_opens_ 76 = .ok (.ireturn, 1) := by decide +kernel
theorem dX12_errands_0 : decode cX12_errands 0 = .ok (.aload_n 0, 1) := by decide +kernel
theorem dX12_errands_1 : decode cX12_errands 1 = .ok (.iload_n 1, 1) := by decide +kernel
theorem dX12_errands_2 : decode cX12_errands 2 = .ok (.invokevirtual 539, 3) := by decide +kernel
theorem dX12_errands_5 : decode cX12_errands 5 = .ok (.ifCond .ne 5, 3) := by decide +kernel
theorem dX12_errands_8 : decode cX12_errands 8 = .ok (.iconst (-1), 1) := by decide +kernel
theorem dX12_errands_9 : decode cX12_errands 9 = .ok (.ireturn, 1) := by decide +kernel
theorem dX12_errands_10 : decode cX12_errands 10 = .ok (.aload_n 0, 1) := by decide +kernel
theorem dX12_errands_11 : decode cX12_errands 11 = .ok (.iload_n 1, 1) := by decide +kernel
theorem dX12_errands_12 : decode cX12_errands 12 = .ok (.aload_n 0, 1) := by decide +kernel
theorem dX12_errands_13 : decode cX12_errands 13 = .ok (.iload_n 1, 1) := by decide +kernel
theorem dX12_errands_14 : decode cX12_errands 14 = .ok (.invokevirtual 526, 3) := by decide +kernel
theorem dX12_errands_17 : decode cX12_errands 17 = .ok (.iconst 1, 1) := by decide +kernel
theorem dX12_errands_18 : decode cX12_errands 18 = .ok (.invokevirtual 587, 3) := by decide +kernel
theorem dX12_errands_21 : decode cX12_errands 21 = .ok (.iconst 0, 1) := by decide +kernel
theorem dX12_errands_22 : decode cX12_errands 22 = .ok (.istore_n 2, 1) := by decide +kernel
theorem dX12_errands_23 : decode cX12_errands 23 = .ok (.iload_n 2, 1) := by decide +kernel
theorem dX12_errands_24 : decode cX12_errands 24 = .ok (.aload_n 0, 1) := by decide +kernel
theorem dX12_errands_25 : decode cX12_errands 25 = .ok (.getfield 214, 3) := by decide +kernel
theorem dX12_errands_28 : decode cX12_errands 28 = .ok (.if_icmp .ge 46, 3) := by decide +kernel
theorem dX12_errands_31 : decode cX12_errands 31 = .ok (.aload_n 0, 1) := by decide +kernel
theorem dX12_errands_32 : decode cX12_errands 32 = .ok (.aload_n 0, 1) := by decide +kernel
theorem dX12_errands_33 : decode cX12_errands 33 = .ok (.getfield 211, 3) := by decide +kernel
theorem dX12_errands_36 : decode cX12_errands 36 = .ok (.iload_n 2, 1) := by decide +kernel
theorem dX12_errands_37 : decode cX12_errands 37 = .ok (.iaload, 1) := by decide +kernel
theorem dX12_errands_38 : decode cX12_errands 38 = .ok (.invokevirtual 581, 3) := by decide +kernel
theorem dX12_errands_41 : decode cX12_errands 41 = .ok (.aload_n 0, 1) := by decide +kernel
theorem dX12_errands_42 : decode cX12_errands 42 = .ok (.getfield 223, 3) := by decide +kernel
theorem dX12_errands_45 : decode cX12_errands 45 = .ok (.iconst 1, 1) := by decide +kernel
theorem dX12_errands_46 : decode cX12_errands 46 = .ok (.aload_n 0, 1) := by decide +kernel
theorem dX12_errands_47 : decode cX12_errands 47 = .ok (.getfield 235, 3) := by decide +kernel
theorem dX12_errands_50 : decode cX12_errands 50 = .ok (.ishl, 1) := by decide +kernel
theorem dX12_errands_51 : decode cX12_errands 51 = .ok (.iconst 1, 1) := by decide +kernel
theorem dX12_errands_52 : decode cX12_errands 52 = .ok (.isub, 1) := by decide +kernel
theorem dX12_errands_53 : decode cX12_errands 53 = .ok (.if_icmp .ne 15, 3) := by decide +kernel
theorem dX12_errands_56 : decode cX12_errands 56 = .ok (.aload_n 0, 1) := by decide +kernel
theorem dX12_errands_57 : decode cX12_errands 57 = .ok (.getfield 208, 3) := by decide +kernel
theorem dX12_errands_60 : decode cX12_errands 60 = .ok (.aload_n 0, 1) := by decide +kernel
theorem dX12_errands_61 : decode cX12_errands 61 = .ok (.getfield 211, 3) := by decide +kernel
theorem dX12_errands_64 : decode cX12_errands 64 = .ok (.iload_n 2, 1) := by decide +kernel
theorem dX12_errands_65 : decode cX12_errands 65 = .ok (.iaload, 1) := by decide +kernel
theorem dX12_errands_66 : decode cX12_errands 66 = .ok (.iaload, 1) := by decide +kernel
theorem dX12_errands_67 : decode cX12_errands 67 = .ok (.ireturn, 1) := by decide +kernel
theorem dX12_errands_68 : decode cX12_errands 68 = .ok (.iinc 2 1, 3) := by decide +kernel
theorem dX12_errands_71 : decode cX12_errands 71 = .ok (.goto (-48), 3) := by decide +kernel
theorem dX12_errands_74 : decode cX12_errands 74 = .ok (.iconst (-1), 1) := by decide +kernel
theorem dX12_errands_75 : decode cX12_errands 75 = .ok (.ireturn, 1) := by decide +kernel
theorem dX12_lent_0 : decode cX12_lent 0 = .ok (.aload_n 0, 1) := by decide +kernel
theorem dX12_lent_1 : decode cX12_lent 1 = .ok (.iload_n 1, 1) := by decide +kernel
theorem dX12_lent_2 : decode cX12_lent 2 = .ok (.invokevirtual 539, 3) := by decide +kernel
theorem dX12_lent_5 : decode cX12_lent 5 = .ok (.ifCond .eq 20, 3) := by decide +kernel
theorem dX12_lent_8 : decode cX12_lent 8 = .ok (.aload_n 0, 1) := by decide +kernel
theorem dX12_lent_9 : decode cX12_lent 9 = .ok (.iload_n 2, 1) := by decide +kernel
theorem dX12_lent_10 : decode cX12_lent 10 = .ok (.invokevirtual 594, 3) := by decide +kernel
theorem dX12_lent_13 : decode cX12_lent 13 = .ok (.ifCond .eq 12, 3) := by decide +kernel
theorem dX12_lent_16 : decode cX12_lent 16 = .ok (.iload_n 3, 1) := by decide +kernel
theorem dX12_lent_17 : decode cX12_lent 17 = .ok (.iconst 0, 1) := by decide +kernel
theorem dX12_lent_18 : decode cX12_lent 18 = .ok (.iconst 2, 1) := by decide +kernel
theorem dX12_lent_19 : decode cX12_lent 19 = .ok (.invokestatic 352, 3) := by decide +kernel
theorem dX12_lent_22 : decode cX12_lent 22 = .ok (.ifCond .ne 5, 3) := by decide +kernel
theorem dX12_lent_25 : decode cX12_lent 25 = .ok (.iconst (-1), 1) := by decide +kernel
theorem dX12_lent_26 : decode cX12_lent 26 = .ok (.ireturn, 1) := by decide +kernel
theorem dX12_lent_27 : decode cX12_lent 27 = .ok (.aload_n 0, 1) := by decide +kernel
theorem dX12_lent_28 : decode cX12_lent 28 = .ok (.iload_n 1, 1) := by decide +kernel
theorem dX12_lent_29 : decode cX12_lent 29 = .ok (.invokevirtual 526, 3) := by decide +kernel
theorem dX12_lent_32 : decode cX12_lent 32 = .ok (.istore 4, 2) := by decide +kernel
theorem dX12_lent_34 : decode cX12_lent 34 = .ok (.aload_n 0, 1) := by decide +kernel
theorem dX12_lent_35 : decode cX12_lent 35 = .ok (.iload_n 1, 1) := by decide +kernel
theorem dX12_lent_36 : decode cX12_lent 36 = .ok (.iload 4, 2) := by decide +kernel
theorem dX12_lent_38 : decode cX12_lent 38 = .ok (.iconst 0, 1) := by decide +kernel
theorem dX12_lent_39 : decode cX12_lent 39 = .ok (.invokevirtual 587, 3) := by decide +kernel
theorem dX12_lent_42 : decode cX12_lent 42 = .ok (.aload_n 0, 1) := by decide +kernel
theorem dX12_lent_43 : decode cX12_lent 43 = .ok (.iload_n 2, 1) := by decide +kernel
theorem dX12_lent_44 : decode cX12_lent 44 = .ok (.invokevirtual 597, 3) := by decide +kernel
theorem dX12_lent_47 : decode cX12_lent 47 = .ok (.istore 5, 2) := by decide +kernel
theorem dX12_lent_49 : decode cX12_lent 49 = .ok (.iconst (-1), 1) := by decide +kernel
theorem dX12_lent_50 : decode cX12_lent 50 = .ok (.istore 6, 2) := by decide +kernel
theorem dX12_lent_52 : decode cX12_lent 52 = .ok (.iconst (-1), 1) := by decide +kernel
theorem dX12_lent_53 : decode cX12_lent 53 = .ok (.istore 7, 2) := by decide +kernel
theorem dX12_lent_55 : decode cX12_lent 55 = .ok (.iconst 0, 1) := by decide +kernel
theorem dX12_lent_56 : decode cX12_lent 56 = .ok (.istore 8, 2) := by decide +kernel
theorem dX12_lent_58 : decode cX12_lent 58 = .ok (.iload 8, 2) := by decide +kernel
theorem dX12_lent_60 : decode cX12_lent 60 = .ok (.aload_n 0, 1) := by decide +kernel
theorem dX12_lent_61 : decode cX12_lent 61 = .ok (.getfield 80, 3) := by decide +kernel
theorem dX12_lent_64 : decode cX12_lent 64 = .ok (.aload_n 0, 1) := by decide +kernel
theorem dX12_lent_65 : decode cX12_lent 65 = .ok (.getfield 48, 3) := by decide +kernel
theorem dX12_lent_68 : decode cX12_lent 68 = .ok (.iaload, 1) := by decide +kernel
theorem dX12_lent_69 : decode cX12_lent 69 = .ok (.if_icmp .ge 89, 3) := by decide +kernel
theorem dX12_lent_72 : decode cX12_lent 72 = .ok (.iload 4, 2) := by decide +kernel
theorem dX12_lent_74 : decode cX12_lent 74 = .ok (.iload 8, 2) := by decide +kernel
theorem dX12_lent_76 : decode cX12_lent 76 = .ok (.ishr, 1) := by decide +kernel
theorem dX12_lent_77 : decode cX12_lent 77 = .ok (.iconst 1, 1) := by decide +kernel
theorem dX12_lent_78 : decode cX12_lent 78 = .ok (.iand, 1) := by decide +kernel
theorem dX12_lent_79 : decode cX12_lent 79 = .ok (.iconst 1, 1) := by decide +kernel
theorem dX12_lent_80 : decode cX12_lent 80 = .ok (.if_icmp .eq 72, 3) := by decide +kernel
theorem dX12_lent_83 : decode cX12_lent 83 = .ok (.aload_n 0, 1) := by decide +kernel
theorem dX12_lent_84 : decode cX12_lent 84 = .ok (.getfield 86, 3) := by decide +kernel
theorem dX12_lent_87 : decode cX12_lent 87 = .ok (.aload_n 0, 1) := by decide +kernel
theorem dX12_lent_88 : decode cX12_lent 88 = .ok (.iload 8, 2) := by decide +kernel
theorem dX12_lent_90 : decode cX12_lent 90 = .ok (.invokevirtual 484, 3) := by decide +kernel
theorem dX12_lent_93 : decode cX12_lent 93 = .ok (.iaload, 1) := by decide +kernel
theorem dX12_lent_94 : decode cX12_lent 94 = .ok (.bipush 40, 2) := by decide +kernel
theorem dX12_lent_96 : decode cX12_lent 96 = .ok (.if_icmp .ne 6, 3) := by decide +kernel
theorem dX12_lent_99 : decode cX12_lent 99 = .ok (.goto 53, 3) := by decide +kernel
theorem dX12_lent_102 : decode cX12_lent 102 = .ok (.aload_n 0, 1) := by decide +kernel
theorem dX12_lent_103 : decode cX12_lent 103 = .ok (.iload_n 1, 1) := by decide +kernel
theorem dX12_lent_104 : decode cX12_lent 104 = .ok (.iload 4, 2) := by decide +kernel
theorem dX12_lent_106 : decode cX12_lent 106 = .ok (.iconst 1, 1) := by decide +kernel
theorem dX12_lent_107 : decode cX12_lent 107 = .ok (.iload 8, 2) := by decide +kernel
theorem dX12_lent_109 : decode cX12_lent 109 = .ok (.ishl, 1) := by decide +kernel
theorem dX12_lent_110 : decode cX12_lent 110 = .ok (.ior, 1) := by decide +kernel
theorem dX12_lent_111 : decode cX12_lent 111 = .ok (.iconst 0, 1) := by decide +kernel
theorem dX12_lent_112 : decode cX12_lent 112 = .ok (.invokevirtual 587, 3) := by decide +kernel
theorem dX12_lent_115 : decode cX12_lent 115 = .ok (.aload_n 0, 1) := by decide +kernel
theorem dX12_lent_116 : decode cX12_lent 116 = .ok (.iload_n 2, 1) := by decide +kernel
theorem dX12_lent_117 : decode cX12_lent 117 = .ok (.invokevirtual 597, 3) := by decide +kernel
theorem dX12_lent_120 : decode cX12_lent 120 = .ok (.istore 9, 2) := by decide +kernel
theorem dX12_lent_122 : decode cX12_lent 122 = .ok (.iload 9, 2) := by decide +kernel
theorem dX12_lent_124 : decode cX12_lent 124 = .ok (.iconst (-1), 1) := by decide +kernel
theorem dX12_lent_125 : decode cX12_lent 125 = .ok (.if_icmp .eq 27, 3) := by decide +kernel
theorem dX12_lent_128 : decode cX12_lent 128 = .ok (.iload 6, 2) := by decide +kernel
theorem dX12_lent_130 : decode cX12_lent 130 = .ok (.iconst (-1), 1) := by decide +kernel
theorem dX12_lent_131 : decode cX12_lent 131 = .ok (.if_icmp .eq 13, 3) := by decide +kernel
theorem dX12_lent_134 : decode cX12_lent 134 = .ok (.iload 9, 2) := by decide +kernel
theorem dX12_lent_136 : decode cX12_lent 136 = .ok (.iload 7, 2) := by decide +kernel
theorem dX12_lent_138 : decode cX12_lent 138 = .ok (.if_icmp .lt 6, 3) := by decide +kernel
theorem dX12_lent_141 : decode cX12_lent 141 = .ok (.goto 11, 3) := by decide +kernel
theorem dX12_lent_144 : decode cX12_lent 144 = .ok (.iload 8, 2) := by decide +kernel
theorem dX12_lent_146 : decode cX12_lent 146 = .ok (.istore 6, 2) := by decide +kernel
theorem dX12_lent_148 : decode cX12_lent 148 = .ok (.iload 9, 2) := by decide +kernel
theorem dX12_lent_150 : decode cX12_lent 150 = .ok (.istore 7, 2) := by decide +kernel
theorem dX12_lent_152 : decode cX12_lent 152 = .ok (.iinc 8 1, 3) := by decide +kernel
theorem dX12_lent_155 : decode cX12_lent 155 = .ok (.goto (-97), 3) := by decide +kernel
theorem dX12_lent_158 : decode cX12_lent 158 = .ok (.iload 6, 2) := by decide +kernel
theorem dX12_lent_160 : decode cX12_lent 160 = .ok (.iconst (-1), 1) := by decide +kernel
theorem dX12_lent_161 : decode cX12_lent 161 = .ok (.if_icmp .ne 5, 3) := by decide +kernel
theorem dX12_lent_164 : decode cX12_lent 164 = .ok (.iconst (-1), 1) := by decide +kernel
theorem dX12_lent_165 : decode cX12_lent 165 = .ok (.ireturn, 1) := by decide +kernel
theorem dX12_lent_166 : decode cX12_lent 166 = .ok (.iload_n 3, 1) := by decide +kernel
theorem dX12_lent_167 : decode cX12_lent 167 = .ok (.ifCond .ne 8, 3) := by decide +kernel
theorem dX12_lent_170 : decode cX12_lent 170 = .ok (.iload 6, 2) := by decide +kernel
theorem dX12_lent_172 : decode cX12_lent 172 = .ok (.goto 28, 3) := by decide +kernel
theorem dX12_lent_175 : decode cX12_lent 175 = .ok (.iload_n 3, 1) := by decide +kernel
theorem dX12_lent_176 : decode cX12_lent 176 = .ok (.iconst 1, 1) := by decide +kernel
theorem dX12_lent_177 : decode cX12_lent 177 = .ok (.if_icmp .ne 8, 3) := by decide +kernel
theorem dX12_lent_180 : decode cX12_lent 180 = .ok (.iload 7, 2) := by decide +kernel
theorem dX12_lent_182 : decode cX12_lent 182 = .ok (.goto 18, 3) := by decide +kernel
theorem dX12_lent_185 : decode cX12_lent 185 = .ok (.iload 5, 2) := by decide +kernel
theorem dX12_lent_187 : decode cX12_lent 187 = .ok (.iconst (-1), 1) := by decide +kernel
theorem dX12_lent_188 : decode cX12_lent 188 = .ok (.if_icmp .ne 7, 3) := by decide +kernel
theorem dX12_lent_191 : decode cX12_lent 191 = .ok (.iconst (-1), 1) := by decide +kernel
theorem dX12_lent_192 : decode cX12_lent 192 = .ok (.goto 8, 3) := by decide +kernel
theorem dX12_lent_195 : decode cX12_lent 195 = .ok (.iload 5, 2) := by decide +kernel
theorem dX12_lent_197 : decode cX12_lent 197 = .ok (.iload 7, 2) := by decide +kernel
theorem dX12_lent_199 : decode cX12_lent 199 = .ok (.isub, 1) := by decide +kernel
theorem dX12_lent_200 : decode cX12_lent 200 = .ok (.ireturn, 1) := by decide +kernel
theorem dX12_isLockedIn_0 : decode cX12_isLockedIn 0 = .ok (.iconst 0, 1) := by decide +kernel
theorem dX12_isLockedIn_1 : decode cX12_isLockedIn 1 = .ok (.istore_n 2, 1) := by decide +kernel
theorem dX12_isLockedIn_2 : decode cX12_isLockedIn 2 = .ok (.iconst 0, 1) := by decide +kernel
theorem dX12_isLockedIn_3 : decode cX12_isLockedIn 3 = .ok (.istore_n 3, 1) := by decide +kernel
theorem dX12_isLockedIn_4 : decode cX12_isLockedIn 4 = .ok (.iload_n 3, 1) := by decide +kernel
theorem dX12_isLockedIn_5 : decode cX12_isLockedIn 5 = .ok (.aload_n 0, 1) := by decide +kernel
theorem dX12_isLockedIn_6 : decode cX12_isLockedIn 6 = .ok (.getfield 58, 3) := by decide +kernel
theorem dX12_isLockedIn_9 : decode cX12_isLockedIn 9 = .ok (.aload_n 0, 1) := by decide +kernel
theorem dX12_isLockedIn_10 : decode cX12_isLockedIn 10 = .ok (.getfield 48, 3) := by decide +kernel
theorem dX12_isLockedIn_13 : decode cX12_isLockedIn 13 = .ok (.iaload, 1) := by decide +kernel
theorem dX12_isLockedIn_14 : decode cX12_isLockedIn 14 = .ok (.if_icmp .ge 45, 3) := by decide +kernel
theorem dX12_isLockedIn_17 : decode cX12_isLockedIn 17 = .ok (.iload_n 2, 1) := by decide +kernel
theorem dX12_isLockedIn_18 : decode cX12_isLockedIn 18 = .ok (.ifCond .ne 29, 3) := by decide +kernel
theorem dX12_isLockedIn_21 : decode cX12_isLockedIn 21 = .ok (.aload_n 0, 1) := by decide +kernel
theorem dX12_isLockedIn_22 : decode cX12_isLockedIn 22 = .ok (.getfield 70, 3) := by decide +kernel
theorem dX12_isLockedIn_25 : decode cX12_isLockedIn 25 = .ok (.aload_n 0, 1) := by decide +kernel
theorem dX12_isLockedIn_26 : decode cX12_isLockedIn 26 = .ok (.iload_n 3, 1) := by decide +kernel
theorem dX12_isLockedIn_27 : decode cX12_isLockedIn 27 = .ok (.invokevirtual 487, 3) := by decide +kernel
theorem dX12_isLockedIn_30 : decode cX12_isLockedIn 30 = .ok (.baload, 1) := by decide +kernel
theorem dX12_isLockedIn_31 : decode cX12_isLockedIn 31 = .ok (.ifCond .ne 20, 3) := by decide +kernel
theorem dX12_isLockedIn_34 : decode cX12_isLockedIn 34 = .ok (.aload_n 0, 1) := by decide +kernel
theorem dX12_isLockedIn_35 : decode cX12_isLockedIn 35 = .ok (.aload_n 0, 1) := by decide +kernel
theorem dX12_isLockedIn_36 : decode cX12_isLockedIn 36 = .ok (.iload_n 1, 1) := by decide +kernel
theorem dX12_isLockedIn_37 : decode cX12_isLockedIn 37 = .ok (.invokevirtual 520, 3) := by decide +kernel
theorem dX12_isLockedIn_40 : decode cX12_isLockedIn 40 = .ok (.iload_n 3, 1) := by decide +kernel
theorem dX12_isLockedIn_41 : decode cX12_isLockedIn 41 = .ok (.invokevirtual 523, 3) := by decide +kernel
theorem dX12_isLockedIn_44 : decode cX12_isLockedIn 44 = .ok (.ifCond .eq 7, 3) := by decide +kernel
theorem dX12_isLockedIn_47 : decode cX12_isLockedIn 47 = .ok (.iconst 1, 1) := by decide +kernel
theorem dX12_isLockedIn_48 : decode cX12_isLockedIn 48 = .ok (.goto 4, 3) := by decide +kernel
theorem dX12_isLockedIn_51 : decode cX12_isLockedIn 51 = .ok (.iconst 0, 1) := by decide +kernel
theorem dX12_isLockedIn_52 : decode cX12_isLockedIn 52 = .ok (.istore_n 2, 1) := by decide +kernel
theorem dX12_isLockedIn_53 : decode cX12_isLockedIn 53 = .ok (.iinc 3 1, 3) := by decide +kernel
theorem dX12_isLockedIn_56 : decode cX12_isLockedIn 56 = .ok (.goto (-52), 3) := by decide +kernel
theorem dX12_isLockedIn_59 : decode cX12_isLockedIn 59 = .ok (.iload_n 2, 1) := by decide +kernel
theorem dX12_isLockedIn_60 : decode cX12_isLockedIn 60 = .ok (.ifCond .eq 19, 3) := by decide +kernel
theorem dX12_isLockedIn_63 : decode cX12_isLockedIn 63 = .ok (.aload_n 0, 1) := by decide +kernel
theorem dX12_isLockedIn_64 : decode cX12_isLockedIn 64 = .ok (.iload_n 1, 1) := by decide +kernel
theorem dX12_isLockedIn_65 : decode cX12_isLockedIn 65 = .ok (.invokevirtual 591, 3) := by decide +kernel
theorem dX12_isLockedIn_68 : decode cX12_isLockedIn 68 = .ok (.invokestatic 529, 3) := by decide +kernel
theorem dX12_isLockedIn_71 : decode cX12_isLockedIn 71 = .ok (.iconst 1, 1) := by decide +kernel
theorem dX12_isLockedIn_72 : decode cX12_isLockedIn 72 = .ok (.if_icmp .ne 7, 3) := by decide +kernel
theorem dX12_isLockedIn_75 : decode cX12_isLockedIn 75 = .ok (.iconst 1, 1) := by decide +kernel
theorem dX12_isLockedIn_76 : decode cX12_isLockedIn 76 = .ok (.goto 4, 3) := by decide +kernel
theorem dX12_isLockedIn_79 : decode cX12_isLockedIn 79 = .ok (.iconst 0, 1) := by decide +kernel
theorem dX12_isLockedIn_80 : decode cX12_isLockedIn 80 = .ok (.ireturn, 1) := by decide +kernel
theorem dX12_locked_0 : decode cX12_locked 0 = .ok (.iconst 0, 1) := by decide +kernel
theorem dX12_locked_1 : decode cX12_locked 1 = .ok (.istore_n 1, 1) := by decide +kernel
theorem dX12_locked_2 : decode cX12_locked 2 = .ok (.iconst 0, 1) := by decide +kernel
theorem dX12_locked_3 : decode cX12_locked 3 = .ok (.istore_n 2, 1) := by decide +kernel
theorem dX12_locked_4 : decode cX12_locked 4 = .ok (.iload_n 2, 1) := by decide +kernel
theorem dX12_locked_5 : decode cX12_locked 5 = .ok (.aload_n 0, 1) := by decide +kernel
theorem dX12_locked_6 : decode cX12_locked 6 = .ok (.getfield 95, 3) := by decide +kernel
theorem dX12_locked_9 : decode cX12_locked 9 = .ok (.aload_n 0, 1) := by decide +kernel
theorem dX12_locked_10 : decode cX12_locked 10 = .ok (.getfield 48, 3) := by decide +kernel
theorem dX12_locked_13 : decode cX12_locked 13 = .ok (.iaload, 1) := by decide +kernel
theorem dX12_locked_14 : decode cX12_locked 14 = .ok (.if_icmp .ge 27, 3) := by decide +kernel
theorem dX12_locked_17 : decode cX12_locked 17 = .ok (.iload_n 1, 1) := by decide +kernel
theorem dX12_locked_18 : decode cX12_locked 18 = .ok (.aload_n 0, 1) := by decide +kernel
theorem dX12_locked_19 : decode cX12_locked 19 = .ok (.iload_n 2, 1) := by decide +kernel
theorem dX12_locked_20 : decode cX12_locked 20 = .ok (.invokevirtual 600, 3) := by decide +kernel
theorem dX12_locked_23 : decode cX12_locked 23 = .ok (.ifCond .eq 9, 3) := by decide +kernel
theorem dX12_locked_26 : decode cX12_locked 26 = .ok (.iconst 1, 1) := by decide +kernel
theorem dX12_locked_27 : decode cX12_locked 27 = .ok (.iload_n 2, 1) := by decide +kernel
theorem dX12_locked_28 : decode cX12_locked 28 = .ok (.ishl, 1) := by decide +kernel
theorem dX12_locked_29 : decode cX12_locked 29 = .ok (.goto 4, 3) := by decide +kernel
theorem dX12_locked_32 : decode cX12_locked 32 = .ok (.iconst 0, 1) := by decide +kernel
theorem dX12_locked_33 : decode cX12_locked 33 = .ok (.ior, 1) := by decide +kernel
theorem dX12_locked_34 : decode cX12_locked 34 = .ok (.istore_n 1, 1) := by decide +kernel
theorem dX12_locked_35 : decode cX12_locked 35 = .ok (.iinc 2 1, 3) := by decide +kernel
theorem dX12_locked_38 : decode cX12_locked 38 = .ok (.goto (-34), 3) := by decide +kernel
theorem dX12_locked_41 : decode cX12_locked 41 = .ok (.iload_n 1, 1) := by decide +kernel
theorem dX12_locked_42 : decode cX12_locked 42 = .ok (.ireturn, 1) := by decide +kernel
