theorem dX12_fewest_12 : decode cX12_fewest 12 = .ok (.getfield 48, 3) := by decide +kernel
theorem dX12_fewest_15 : decode cX12_fewest 15 = .ok (.iaload, 1) := by decide +kernel
theorem dX12_fewest_16 : decode cX12_fewest 16 = .ok (.iconst 1, 1) := by decide +kernel
theorem dX12_fewest_17 : decode cX12_fewest 17 = .ok (.isub, 1) := by decide +kernel
theorem dX12_fewest_18 : decode cX12_fewest 18 = .ok (.invokestatic 352, 3) := by decide +kernel
theorem dX12_fewest_21 : decode cX12_fewest 21 = .ok (.ifCond .ne 5, 3) := by decide +kernel
theorem dX12_fewest_24 : decode cX12_fewest 24 = .ok (.iconst (-1), 1) := by decide +kernel
theorem dX12_fewest_25 : decode cX12_fewest 25 = .ok (.ireturn, 1) := by decide +kernel
theorem dX12_fewest_26 : decode cX12_fewest 26 = .ok (.iconst 0, 1) := by decide +kernel
theorem dX12_fewest_27 : decode cX12_fewest 27 = .ok (.istore_n 2, 1) := by decide +kernel
theorem dX12_fewest_28 : decode cX12_fewest 28 = .ok (.aload_n 0, 1) := by decide +kernel
theorem dX12_fewest_29 : decode cX12_fewest 29 = .ok (.iload_n 2, 1) := by decide +kernel
theorem dX12_fewest_30 : decode cX12_fewest 30 = .ok (.invokevirtual 612, 3) := by decide +kernel
theorem dX12_fewest_33 : decode cX12_fewest 33 = .ok (.ifCond .ne 9, 3) := by decide +kernel
theorem dX12_fewest_42 : decode cX12_fewest 42 = .ok (.iload_n 1, 1) := by decide +kernel
theorem dX12_fewest_43 : decode cX12_fewest 43 = .ok (.iconst (-1), 1) := by decide +kernel
theorem dX12_fewest_44 : decode cX12_fewest 44 = .ok (.if_icmp .ne 7, 3) := by decide +kernel
theorem dX12_fewest_47 : decode cX12_fewest 47 = .ok (.iload_n 2, 1) := by decide +kernel
theorem dX12_fewest_48 : decode cX12_fewest 48 = .ok (.goto 9, 3) := by decide +kernel
theorem dX12_fewest_57 : decode cX12_fewest 57 = .ok (.ireturn, 1) := by decide +kernel
theorem dX12_order_0 : decode cX12_order 0 = .ok (.iconst 0, 1) := by decide +kernel
theorem dX12_order_1 : decode cX12_order 1 = .ok (.istore_n 2, 1) := by decide +kernel
theorem dX12_order_2 : decode cX12_order 2 = .ok (.iload_n 2, 1) := by decide +kernel
theorem dX12_order_3 : decode cX12_order 3 = .ok (.aload_n 0, 1) := by decide +kernel
theorem dX12_order_4 : decode cX12_order 4 = .ok (.getfield 122, 3) := by decide +kernel
theorem dX12_order_7 : decode cX12_order 7 = .ok (.aload_n 0, 1) := by decide +kernel
theorem dX12_order_8 : decode cX12_order 8 = .ok (.getfield 48, 3) := by decide +kernel
theorem dX12_order_11 : decode cX12_order 11 = .ok (.iaload, 1) := by decide +kernel
theorem dX12_order_12 : decode cX12_order 12 = .ok (.if_icmp .ge 59, 3) := by decide +kernel
theorem dX12_order_71 : decode cX12_order 71 = .ok (.iconst (-1), 1) := by decide +kernel
theorem dX12_order_72 : decode cX12_order 72 = .ok (.ireturn, 1) := by decide +kernel
theorem dX12_agrees_0 : decode cX12_agrees 0 = .ok (.aload_n 0, 1) := by decide +kernel
theorem dX12_agrees_1 : decode cX12_agrees 1 = .ok (.aload_n 0, 1) := by decide +kernel
theorem dX12_agrees_2 : decode cX12_agrees 2 = .ok (.getfield 250, 3) := by decide +kernel
theorem dX12_agrees_5 : decode cX12_agrees 5 = .ok (.putfield 256, 3) := by decide +kernel
theorem dX12_agrees_8 : decode cX12_agrees 8 = .ok (.iconst 0, 1) := by decide +kernel
theorem dX12_agrees_9 : decode cX12_agrees 9 = .ok (.istore_n 1, 1) := by decide +kernel
theorem dX12_agrees_10 : decode cX12_agrees 10 = .ok (.iload_n 1, 1) := by decide +kernel
theorem dX12_agrees_11 : decode cX12_agrees 11 = .ok (.aload_n 0, 1) := by decide +kernel
theorem dX12_agrees_12 : decode cX12_agrees 12 = .ok (.getfield 241, 3) := by decide +kernel
theorem dX12_agrees_15 : decode cX12_agrees 15 = .ok (.if_icmp .ge 72, 3) := by decide +kernel
theorem dX12_agrees_87 : decode cX12_agrees 87 = .ok (.iconst 1, 1) := by decide +kernel
theorem dX12_agrees_88 : decode cX12_agrees 88 = .ok (.ireturn, 1) := by decide +kernel
theorem dX12_isRow_0 : decode cX12_isRow 0 = .ok (.aload_n 0, 1) := by decide +kernel
theorem dX12_isRow_1 : decode cX12_isRow 1 = .ok (.iload_n 1, 1) := by decide +kernel
theorem dX12_isRow_2 : decode cX12_isRow 2 = .ok (.putfield 250, 3) := by decide +kernel
theorem dX12_isRow_5 : decode cX12_isRow 5 = .ok (.iload_n 2, 1) := by decide +kernel
theorem dX12_isRow_6 : decode cX12_isRow 6 = .ok (.istore_n 3, 1) := by decide +kernel
theorem dX12_isRow_7 : decode cX12_isRow 7 = .ok (.iload_n 1, 1) := by decide +kernel
theorem dX12_isRow_8 : decode cX12_isRow 8 = .ok (.iconst 1, 1) := by decide +kernel
theorem dX12_isRow_9 : decode cX12_isRow 9 = .ok (.isub, 1) := by decide +kernel
theorem dX12_isRow_10 : decode cX12_isRow 10 = .ok (.istore 4, 2) := by decide +kernel
theorem dX12_isRow_12 : decode cX12_isRow 12 = .ok (.iload 4, 2) := by decide +kernel
theorem dX12_isRow_14 : decode cX12_isRow 14 = .ok (.ifCond .lt 25, 3) := by decide +kernel
theorem dX12_isRow_17 : decode cX12_isRow 17 = .ok (.aload_n 0, 1) := by decide +kernel
theorem dX12_isRow_18 : decode cX12_isRow 18 = .ok (.getfield 253, 3) := by decide +kernel
theorem dX12_isRow_21 : decode cX12_isRow 21 = .ok (.iload 4, 2) := by decide +kernel
theorem dX12_isRow_23 : decode cX12_isRow 23 = .ok (.iload_n 3, 1) := by decide +kernel
theorem dX12_isRow_24 : decode cX12_isRow 24 = .ok (.bipush 10, 2) := by decide +kernel
theorem dX12_isRow_26 : decode cX12_isRow 26 = .ok (.irem, 1) := by decide +kernel
theorem dX12_isRow_27 : decode cX12_isRow 27 = .ok (.iastore, 1) := by decide +kernel
theorem dX12_isRow_28 : decode cX12_isRow 28 = .ok (.iload_n 3, 1) := by decide +kernel
theorem dX12_isRow_29 : decode cX12_isRow 29 = .ok (.bipush 10, 2) := by decide +kernel
theorem dX12_isRow_31 : decode cX12_isRow 31 = .ok (.idiv, 1) := by decide +kernel
theorem dX12_isRow_32 : decode cX12_isRow 32 = .ok (.istore_n 3, 1) := by decide +kernel
theorem dX12_isRow_33 : decode cX12_isRow 33 = .ok (.iinc 4 (-1), 3) := by decide +kernel
theorem dX12_isRow_36 : decode cX12_isRow 36 = .ok (.goto (-24), 3) := by decide +kernel
theorem dX12_isRow_39 : decode cX12_isRow 39 = .ok (.iconst 0, 1) := by decide +kernel
theorem dX12_isRow_40 : decode cX12_isRow 40 = .ok (.istore 4, 2) := by decide +kernel
theorem dX12_isRow_42 : decode cX12_isRow 42 = .ok (.iload 4, 2) := by decide +kernel
theorem dX12_isRow_44 : decode cX12_isRow 44 = .ok (.iload_n 1, 1) := by decide +kernel
theorem dX12_isRow_45 : decode cX12_isRow 45 = .ok (.if_icmp .ge 79, 3) := by decide +kernel
theorem dX12_isRow_48 : decode cX12_isRow 48 = .ok (.aload_n 0, 1) := by decide +kernel
theorem dX12_isRow_49 : decode cX12_isRow 49 = .ok (.aload_n 0, 1) := by decide +kernel
theorem dX12_isRow_50 : decode cX12_isRow 50 = .ok (.getfield 253, 3) := by decide +kernel
theorem dX12_isRow_53 : decode cX12_isRow 53 = .ok (.iload 4, 2) := by decide +kernel
theorem dX12_isRow_55 : decode cX12_isRow 55 = .ok (.iaload, 1) := by decide +kernel
theorem dX12_isRow_56 : decode cX12_isRow 56 = .ok (.invokevirtual 507, 3) := by decide +kernel
theorem dX12_isRow_59 : decode cX12_isRow 59 = .ok (.ifCond .eq 22, 3) := by decide +kernel
theorem dX12_isRow_81 : decode cX12_isRow 81 = .ok (.iconst 0, 1) := by decide +kernel
theorem dX12_isRow_82 : decode cX12_isRow 82 = .ok (.ireturn, 1) := by decide +kernel
theorem dX12_isRow_124 : decode cX12_isRow 124 = .ok (.iconst 1, 1) := by decide +kernel
theorem dX12_isRow_125 : decode cX12_isRow 125 = .ok (.ireturn, 1) := by decide +kernel
theorem dX12_fitting_0 : decode cX12_fitting 0 = .ok (.iconst 0, 1) := by decide +kernel
theorem dX12_fitting_1 : decode cX12_fitting 1 = .ok (.istore_n 2, 1) := by decide +kernel
theorem dX12_fitting_2 : decode cX12_fitting 2 = .ok (.iconst 1, 1) := by decide +kernel
theorem dX12_fitting_3 : decode cX12_fitting 3 = .ok (.istore_n 3, 1) := by decide +kernel
theorem dX12_fitting_4 : decode cX12_fitting 4 = .ok (.iconst 0, 1) := by decide +kernel
theorem dX12_fitting_5 : decode cX12_fitting 5 = .ok (.istore 4, 2) := by decide +kernel
theorem dX12_fitting_7 : decode cX12_fitting 7 = .ok (.iload 4, 2) := by decide +kernel
theorem dX12_fitting_9 : decode cX12_fitting 9 = .ok (.iconst 3, 1) := by decide +kernel
theorem dX12_fitting_10 : decode cX12_fitting 10 = .ok (.if_icmp .gt 82, 3) := by decide +kernel
theorem dX12_fitting_13 : decode cX12_fitting 13 = .ok (.iconst 0, 1) := by decide +kernel
theorem dX12_fitting_14 : decode cX12_fitting 14 = .ok (.istore 5, 2) := by decide +kernel
theorem dX12_fitting_16 : decode cX12_fitting 16 = .ok (.iload 5, 2) := by decide +kernel
theorem dX12_fitting_18 : decode cX12_fitting 18 = .ok (.iload_n 3, 1) := by decide +kernel
theorem dX12_fitting_19 : decode cX12_fitting 19 = .ok (.if_icmp .ge 62, 3) := by decide +kernel
theorem dX12_fitting_22 : decode cX12_fitting 22 = .ok (.iload_n 2, 1) := by decide +kernel
theorem dX12_fitting_23 : decode cX12_fitting 23 = .ok (.aload_n 0, 1) := by decide +kernel
theorem dX12_fitting_24 : decode cX12_fitting 24 = .ok (.iload 4, 2) := by decide +kernel
theorem dX12_fitting_26 : decode cX12_fitting 26 = .ok (.iload 5, 2) := by decide +kernel
theorem dX12_fitting_28 : decode cX12_fitting 28 = .ok (.invokevirtual 618, 3) := by decide +kernel
theorem dX12_fitting_31 : decode cX12_fitting 31 = .ok (.ifCond .eq 41, 3) := by decide +kernel
theorem dX12_fitting_34 : decode cX12_fitting 34 = .ok (.aload_n 0, 1) := by decide +kernel
theorem dX12_fitting_35 : decode cX12_fitting 35 = .ok (.invokevirtual 621, 3) := by decide +kernel
theorem dX12_fitting_38 : decode cX12_fitting 38 = .ok (.ifCond .eq 34, 3) := by decide +kernel
theorem dX12_fitting_41 : decode cX12_fitting 41 = .ok (.iload_n 1, 1) := by decide +kernel
theorem dX12_fitting_42 : decode cX12_fitting 42 = .ok (.iconst (-1), 1) := by decide +kernel
theorem dX12_fitting_43 : decode cX12_fitting 43 = .ok (.if_icmp .eq 25, 3) := by decide +kernel
theorem dX12_fitting_68 : decode cX12_fitting 68 = .ok (.iconst 1, 1) := by decide +kernel
theorem dX12_fitting_69 : decode cX12_fitting 69 = .ok (.goto 4, 3) := by decide +kernel
theorem dX12_fitting_72 : decode cX12_fitting 72 = .ok (.iconst 0, 1) := by decide +kernel
theorem dX12_fitting_73 : decode cX12_fitting 73 = .ok (.iadd, 1) := by decide +kernel
theorem dX12_fitting_74 : decode cX12_fitting 74 = .ok (.istore_n 2, 1) := by decide +kernel
theorem dX12_fitting_75 : decode cX12_fitting 75 = .ok (.iinc 5 1, 3) := by decide +kernel
theorem dX12_fitting_78 : decode cX12_fitting 78 = .ok (.goto (-62), 3) := by decide +kernel
theorem dX12_fitting_81 : decode cX12_fitting 81 = .ok (.iload_n 3, 1) := by decide +kernel
theorem dX12_fitting_82 : decode cX12_fitting 82 = .ok (.bipush 10, 2) := by decide +kernel
theorem dX12_fitting_84 : decode cX12_fitting 84 = .ok (.imul, 1) := by decide +kernel
theorem dX12_fitting_85 : decode cX12_fitting 85 = .ok (.istore_n 3, 1) := by decide +kernel
theorem dX12_fitting_86 : decode cX12_fitting 86 = .ok (.iinc 4 1, 3) := by decide +kernel
theorem dX12_fitting_89 : decode cX12_fitting 89 = .ok (.goto (-82), 3) := by decide +kernel
theorem dX12_fitting_92 : decode cX12_fitting 92 = .ok (.iload_n 2, 1) := by decide +kernel
theorem dX12_fitting_93 : decode cX12_fitting 93 = .ok (.ireturn, 1) := by decide +kernel
theorem dX12_trial_0 : decode cX12_trial 0 = .ok (.aload_n 0, 1) := by decide +kernel
theorem dX12_trial_1 : decode cX12_trial 1 = .ok (.iload_n 1, 1) := by decide +kernel
theorem dX12_trial_2 : decode cX12_trial 2 = .ok (.invokevirtual 507, 3) := by decide +kernel
theorem dX12_trial_5 : decode cX12_trial 5 = .ok (.ifCond .eq 12, 3) := by decide +kernel
theorem dX12_trial_17 : decode cX12_trial 17 = .ok (.aload_n 0, 1) := by decide +kernel
theorem dX12_trial_18 : decode cX12_trial 18 = .ok (.iconst 4, 1) := by decide +kernel
theorem dX12_trial_19 : decode cX12_trial 19 = .ok (.invokevirtual 271, 3) := by decide +kernel
theorem dX12_trial_22 : decode cX12_trial 22 = .ok (.ireturn, 1) := by decide +kernel
theorem dX12_fits_0 : decode cX12_fits 0 = .ok (.iload_n 1, 1) := by decide +kernel
theorem dX12_fits_1 : decode cX12_fits 1 = .ok (.iconst (-1), 1) := by decide +kernel
theorem dX12_fits_2 : decode cX12_fits 2 = .ok (.if_icmp .ne 9, 3) := by decide +kernel
theorem dX12_fits_5 : decode cX12_fits 5 = .ok (.aload_n 0, 1) := by decide +kernel
theorem dX12_fits_6 : decode cX12_fits 6 = .ok (.iconst (-1), 1) := by decide +kernel
theorem dX12_fits_7 : decode cX12_fits 7 = .ok (.invokevirtual 624, 3) := by decide +kernel
theorem dX12_fits_10 : decode cX12_fits 10 = .ok (.ireturn, 1) := by decide +kernel
theorem dX12_fits_11 : decode cX12_fits 11 = .ok (.iconst 1, 1) := by decide +kernel
theorem dX12_fits_12 : decode cX12_fits 12 = .ok (.istore_n 2, 1) := by decide +kernel
theorem dX12_fits_13 : decode cX12_fits 13 = .ok (.iconst 0, 1) := by decide +kernel
theorem dX12_fits_14 : decode cX12_fits 14 = .ok (.istore_n 3, 1) := by decide +kernel
theorem dX12_fits_15 : decode cX12_fits 15 = .ok (.iload_n 3, 1) := by decide +kernel
theorem dX12_fits_16 : decode cX12_fits 16 = .ok (.iconst 3, 1) := by decide +kernel
theorem dX12_fits_17 : decode cX12_fits 17 = .ok (.if_icmp .gt 68, 3) := by decide +kernel
theorem dX12_fits_20 : decode cX12_fits 20 = .ok (.iconst 0, 1) := by decide +kernel
theorem dX12_fits_21 : decode cX12_fits 21 = .ok (.istore 4, 2) := by decide +kernel
theorem dX12_fits_23 : decode cX12_fits 23 = .ok (.iload 4, 2) := by decide +kernel
theorem dX12_fits_25 : decode cX12_fits 25 = .ok (.iload_n 2, 1) := by decide +kernel
theorem dX12_fits_26 : decode cX12_fits 26 = .ok (.if_icmp .ge 48, 3) := by decide +kernel
theorem dX12_fits_29 : decode cX12_fits 29 = .ok (.aload_n 0, 1) := by decide +kernel
theorem dX12_fits_30 : decode cX12_fits 30 = .ok (.iload_n 3, 1) := by decide +kernel
theorem dX12_fits_31 : decode cX12_fits 31 = .ok (.iload 4, 2) := by decide +kernel
theorem dX12_fits_33 : decode cX12_fits 33 = .ok (.invokevirtual 618, 3) := by decide +kernel
theorem dX12_fits_36 : decode cX12_fits 36 = .ok (.ifCond .eq 32, 3) := by decide +kernel
theorem dX12_fits_39 : decode cX12_fits 39 = .ok (.aload_n 0, 1) := by decide +kernel
theorem dX12_fits_40 : decode cX12_fits 40 = .ok (.invokevirtual 621, 3) := by decide +kernel
theorem dX12_fits_43 : decode cX12_fits 43 = .ok (.ifCond .eq 25, 3) := by decide +kernel
theorem dX12_fits_46 : decode cX12_fits 46 = .ok (.iload_n 1, 1) := by decide +kernel
theorem dX12_fits_47 : decode cX12_fits 47 = .ok (.iconst 0, 1) := by decide +kernel
theorem dX12_fits_48 : decode cX12_fits 48 = .ok (.iload_n 3, 1) := by decide +kernel
theorem dX12_fits_49 : decode cX12_fits 49 = .ok (.iconst 1, 1) := by decide +kernel
theorem dX12_fits_50 : decode cX12_fits 50 = .ok (.isub, 1) := by decide +kernel
theorem dX12_fits_51 : decode cX12_fits 51 = .ok (.invokestatic 352, 3) := by decide +kernel
theorem dX12_fits_54 : decode cX12_fits 54 = .ok (.ifCond .eq 12, 3) := by decide +kernel
theorem dX12_fits_66 : decode cX12_fits 66 = .ok (.iconst (-1), 1) := by decide +kernel
theorem dX12_fits_67 : decode cX12_fits 67 = .ok (.ireturn, 1) := by decide +kernel
theorem dX12_would_0 : decode cX12_would 0 = .ok (.aload_n 0, 1) := by decide +kernel
theorem dX12_would_1 : decode cX12_would 1 = .ok (.iload_n 1, 1) := by decide +kernel
theorem dX12_would_2 : decode cX12_would 2 = .ok (.invokevirtual 507, 3) := by decide +kernel
theorem dX12_would_5 : decode cX12_would 5 = .ok (.ifCond .eq 11, 3) := by decide +kernel
theorem dX12_would_16 : decode cX12_would 16 = .ok (.iconst (-1), 1) := by decide +kernel
theorem dX12_would_17 : decode cX12_would 17 = .ok (.ireturn, 1) := by decide +kernel
theorem dX12_unsay_0 : decode cX12_unsay 0 = .ok (.aload_n 0, 1) := by decide +kernel
theorem dX12_unsay_1 : decode cX12_unsay 1 = .ok (.getfield 241, 3) := by decide +kernel
theorem dX12_unsay_4 : decode cX12_unsay 4 = .ok (.ifCond .ne 9, 3) := by decide +kernel
theorem dX12_unsay_7 : decode cX12_unsay 7 = .ok (.aload_n 0, 1) := by decide +kernel
theorem dX12_unsay_8 : decode cX12_unsay 8 = .ok (.iconst 4, 1) := by decide +kernel
theorem dX12_unsay_9 : decode cX12_unsay 9 = .ok (.invokevirtual 271, 3) := by decide +kernel
theorem dX12_unsay_12 : decode cX12_unsay 12 = .ok (.ireturn, 1) := by decide +kernel
theorem dX12_round_0 : decode cX12_round 0 = .ok (.aload_n 0, 1) := by decide +kernel
theorem dX12_round_1 : decode cX12_round 1 = .ok (.iload_n 1, 1) := by decide +kernel
theorem dX12_round_2 : decode cX12_round 2 = .ok (.invokevirtual 539, 3) := by decide +kernel
theorem dX12_round_5 : decode cX12_round 5 = .ok (.ifCond .ne 5, 3) := by decide +kernel
theorem dX12_round_8 : decode cX12_round 8 = .ok (.iconst (-1), 1) := by decide +kernel
theorem dX12_round_9 : decode cX12_round 9 = .ok (.ireturn, 1) := by decide +kernel
theorem dX12_writes_0 : decode cX12_writes 0 = .ok (.aload_n 0, 1) := by decide +kernel
theorem dX12_writes_1 : decode cX12_writes 1 = .ok (.getfield 265, 3) := by decide +kernel
theorem dX12_writes_4 : decode cX12_writes 4 = .ok (.aload_n 0, 1) := by decide +kernel
theorem dX12_writes_5 : decode cX12_writes 5 = .ok (.getfield 268, 3) := by decide +kernel
theorem dX12_writes_8 : decode cX12_writes 8 = .ok (.iload_n 1, 1) := by decide +kernel
theorem dX12_writes_9 : decode cX12_writes 9 = .ok (.sipush 255, 3) := by decide +kernel
theorem dX12_writes_12 : decode cX12_writes 12 = .ok (.iand, 1) := by decide +kernel
theorem dX12_writes_13 : decode cX12_writes 13 = .ok (.iastore, 1) := by decide +kernel
theorem dX12_writes_14 : decode cX12_writes 14 = .ok (.aload_n 0, 1) := by decide +kernel
theorem dX12_writes_15 : decode cX12_writes 15 = .ok (.dup, 1) := by decide +kernel
theorem dX12_writes_16 : decode cX12_writes 16 = .ok (.getfield 268, 3) := by decide +kernel
theorem dX12_writes_19 : decode cX12_writes 19 = .ok (.iconst 1, 1) := by decide +kernel
theorem dX12_writes_20 : decode cX12_writes 20 = .ok (.iadd, 1) := by decide +kernel
theorem dX12_writes_21 : decode cX12_writes 21 = .ok (.putfield 268, 3) := by decide +kernel
theorem dX12_writes_24 : decode cX12_writes 24 = .ok (.return_, 1) := by decide +kernel
theorem dX12_image_0 : decode cX12_image 0 = .ok (.aload_n 0, 1) := by decide +kernel
theorem dX12_image_1 : decode cX12_image 1 = .ok (.iconst 0, 1) := by decide +kernel
theorem dX12_image_2 : decode cX12_image 2 = .ok (.putfield 268, 3) := by decide +kernel
theorem dX12_image_5 : decode cX12_image 5 = .ok (.iconst 0, 1) := by decide +kernel
theorem dX12_image_6 : decode cX12_image 6 = .ok (.istore_n 1, 1) := by decide +kernel
theorem dX12_image_7 : decode cX12_image 7 = .ok (.iload_n 1, 1) := by decide +kernel
theorem dX12_image_8 : decode cX12_image 8 = .ok (.aload_n 0, 1) := by decide +kernel
theorem dX12_image_9 : decode cX12_image 9 = .ok (.getfield 95, 3) := by decide +kernel
theorem dX12_image_12 : decode cX12_image 12 = .ok (.aload_n 0, 1) := by decide +kernel
theorem dX12_image_13 : decode cX12_image 13 = .ok (.getfield 48, 3) := by decide +kernel
theorem dX12_image_16 : decode cX12_image 16 = .ok (.iaload, 1) := by decide +kernel
theorem dX12_image_17 : decode cX12_image 17 = .ok (.if_icmp .ge 18, 3) := by decide +kernel
theorem dX12_image_35 : decode cX12_image 35 = .ok (.iconst 0, 1) := by decide +kernel
theorem dX12_image_36 : decode cX12_image 36 = .ok (.istore_n 1, 1) := by decide +kernel
theorem dX12_image_37 : decode cX12_image 37 = .ok (.iload_n 1, 1) := by decide +kernel
theorem dX12_image_38 : decode cX12_image 38 = .ok (.aload_n 0, 1) := by decide +kernel
theorem dX12_image_39 : decode cX12_image 39 = .ok (.getfield 80, 3) := by decide +kernel
theorem dX12_image_42 : decode cX12_image 42 = .ok (.aload_n 0, 1) := by decide +kernel
theorem dX12_image_43 : decode cX12_image 43 = .ok (.getfield 48, 3) := by decide +kernel
theorem dX12_image_46 : decode cX12_image 46 = .ok (.iaload, 1) := by decide +kernel
theorem dX12_image_47 : decode cX12_image 47 = .ok (.if_icmp .ge 78, 3) := by decide +kernel
theorem dX12_image_125 : decode cX12_image 125 = .ok (.bipush 19, 2) := by decide +kernel
theorem dX12_image_127 : decode cX12_image 127 = .ok (.istore_n 1, 1) := by decide +kernel
theorem dX12_image_128 : decode cX12_image 128 = .ok (.iconst 0, 1) := by decide +kernel
theorem dX12_image_129 : decode cX12_image 129 = .ok (.istore_n 2, 1) := by decide +kernel
theorem dX12_image_130 : decode cX12_image 130 = .ok (.iload_n 2, 1) := by decide +kernel
theorem dX12_image_131 : decode cX12_image 131 = .ok (.aload_n 0, 1) := by decide +kernel
theorem dX12_image_132 : decode cX12_image 132 = .ok (.getfield 268, 3) := by decide +kernel
theorem dX12_image_135 : decode cX12_image 135 = .ok (.if_icmp .ge 24, 3) := by decide +kernel
theorem dX12_image_159 : decode cX12_image 159 = .ok (.aload_n 0, 1) := by decide +kernel
theorem dX12_image_160 : decode cX12_image 160 = .ok (.iload_n 1, 1) := by decide +kernel
theorem dX12_image_161 : decode cX12_image 161 = .ok (.invokevirtual 631, 3) := by decide +kernel
theorem dX12_image_164 : decode cX12_image 164 = .ok (.aload_n 0, 1) := by decide +kernel
theorem dX12_image_165 : decode cX12_image 165 = .ok (.getfield 268, 3) := by decide +kernel
theorem dX12_image_168 : decode cX12_image 168 = .ok (.ireturn, 1) := by decide +kernel
theorem dX12_octet_0 : decode cX12_octet 0 = .ok (.iload_n 1, 1) := by decide +kernel
theorem dX12_octet_1 : decode cX12_octet 1 = .ok (.ifCond .lt 20, 3) := by decide +kernel
theorem dX12_octet_4 : decode cX12_octet 4 = .ok (.iload_n 1, 1) := by decide +kernel
theorem dX12_octet_5 : decode cX12_octet 5 = .ok (.aload_n 0, 1) := by decide +kernel
theorem dX12_octet_6 : decode cX12_octet 6 = .ok (.getfield 268, 3) := by decide +kernel
theorem dX12_octet_9 : decode cX12_octet 9 = .ok (.if_icmp .ge 12, 3) := by decide +kernel
theorem dX12_octet_21 : decode cX12_octet 21 = .ok (.iconst (-1), 1) := by decide +kernel
theorem dX12_octet_22 : decode cX12_octet 22 = .ok (.ireturn, 1) := by decide +kernel
theorem dX12_isWhole_0 : decode cX12_isWhole 0 = .ok (.iload_n 1, 1) := by decide +kernel
theorem dX12_isWhole_1 : decode cX12_isWhole 1 = .ok (.iconst 1, 1) := by decide +kernel
theorem dX12_isWhole_2 : decode cX12_isWhole 2 = .ok (.if_icmp .ge 5, 3) := by decide +kernel
theorem dX12_isWhole_5 : decode cX12_isWhole 5 = .ok (.iconst 0, 1) := by decide +kernel
theorem dX12_isWhole_6 : decode cX12_isWhole 6 = .ok (.ireturn, 1) := by decide +kernel
theorem dX12_on_0 : decode cX12_on 0 = .ok (.aload_n 0, 1) := by decide +kernel
theorem dX12_on_1 : decode cX12_on 1 = .ok (.getfield 13, 3) := by decide +kernel
theorem dX12_on_4 : decode cX12_on 4 = .ok (.istore_n 1, 1) := by decide +kernel
theorem dX12_on_5 : decode cX12_on 5 = .ok (.aload_n 0, 1) := by decide +kernel
theorem dX12_on_6 : decode cX12_on 6 = .ok (.iconst 0, 1) := by decide +kernel
theorem dX12_on_7 : decode cX12_on 7 = .ok (.putfield 13, 3) := by decide +kernel
theorem dX12_on_10 : decode cX12_on 10 = .ok (.aload_n 0, 1) := by decide +kernel
theorem dX12_on_11 : decode cX12_on 11 = .ok (.iload_n 1, 1) := by decide +kernel
theorem dX12_on_12 : decode cX12_on 12 = .ok (.invokevirtual 640, 3) := by decide +kernel
theorem dX12_on_15 : decode cX12_on 15 = .ok (.ifCond .ne 17, 3) := by decide +kernel
theorem dX12_on_18 : decode cX12_on 18 = .ok (.aload_n 0, 1) := by decide +kernel
theorem dX12_on_19 : decode cX12_on 19 = .ok (.iconst 5, 1) := by decide +kernel
theorem dX12_on_20 : decode cX12_on 20 = .ok (.invokevirtual 271, 3) := by decide +kernel
theorem dX12_on_23 : decode cX12_on 23 = .ok (.ifCond .lt 7, 3) := by decide +kernel
theorem dX12_on_30 : decode cX12_on 30 = .ok (.iconst 0, 1) := by decide +kernel
theorem dX12_on_31 : decode cX12_on 31 = .ok (.ireturn, 1) := by decide +kernel
theorem dJ6_bitCount_0f7a4_0 : decode cJ6_bitCount_0f7a4 0 = .ok (.iload_n 0, 1) := by decide +kernel
theorem dJ6_bitCount_0f7a4_1 : decode cJ6_bitCount_0f7a4 1 = .ok (.iload_n 0, 1) := by decide +kernel
theorem dJ6_bitCount_0f7a4_2 : decode cJ6_bitCount_0f7a4 2 = .ok (.iconst 1, 1) := by decide +kernel
theorem dJ6_bitCount_0f7a4_3 : decode cJ6_bitCount_0f7a4 3 = .ok (.iushr, 1) := by decide +kernel
theorem dJ6_bitCount_0f7a4_4 : decode cJ6_bitCount_0f7a4 4 = .ok (.ldc_w 265, 3) := by decide +kernel
theorem dJ6_bitCount_0f7a4_7 : decode cJ6_bitCount_0f7a4 7 = .ok (.iand, 1) := by decide +kernel
theorem dJ6_bitCount_0f7a4_8 : decode cJ6_bitCount_0f7a4 8 = .ok (.isub, 1) := by decide +kernel
theorem dJ6_bitCount_0f7a4_9 : decode cJ6_bitCount_0f7a4 9 = .ok (.istore_n 0, 1) := by decide +kernel
theorem dJ6_bitCount_0f7a4_10 : decode cJ6_bitCount_0f7a4 10 = .ok (.iload_n 0, 1) := by decide +kernel
theorem dJ6_bitCount_0f7a4_11 : decode cJ6_bitCount_0f7a4 11 = .ok (.ldc_w 266, 3) := by decide +kernel
theorem dJ6_bitCount_0f7a4_14 : decode cJ6_bitCount_0f7a4 14 = .ok (.iand, 1) := by decide +kernel
theorem dJ6_bitCount_0f7a4_15 : decode cJ6_bitCount_0f7a4 15 = .ok (.iload_n 0, 1) := by decide +kernel
theorem dJ6_bitCount_0f7a4_16 : decode cJ6_bitCount_0f7a4 16 = .ok (.iconst 2, 1) := by decide +kernel
theorem dJ6_bitCount_0f7a4_17 : decode cJ6_bitCount_0f7a4 17 = .ok (.iushr, 1) := by decide +kernel
theorem dJ6_bitCount_0f7a4_18 : decode cJ6_bitCount_0f7a4 18 = .ok (.ldc_w 266, 3) := by decide +kernel
theorem dJ6_bitCount_0f7a4_21 : decode cJ6_bitCount_0f7a4 21 = .ok (.iand, 1) := by decide +kernel
theorem dJ6_bitCount_0f7a4_22 : decode cJ6_bitCount_0f7a4 22 = .ok (.iadd, 1) := by decide +kernel
theorem dJ6_bitCount_0f7a4_23 : decode cJ6_bitCount_0f7a4 23 = .ok (.istore_n 0, 1) := by decide +kernel
theorem dJ6_bitCount_0f7a4_24 : decode cJ6_bitCount_0f7a4 24 = .ok (.iload_n 0, 1) := by decide +kernel
theorem dJ6_bitCount_0f7a4_25 : decode cJ6_bitCount_0f7a4 25 = .ok (.iload_n 0, 1) := by decide +kernel
theorem dJ6_bitCount_0f7a4_26 : decode cJ6_bitCount_0f7a4 26 = .ok (.iconst 4, 1) := by decide +kernel
theorem dJ6_bitCount_0f7a4_27 : decode cJ6_bitCount_0f7a4 27 = .ok (.iushr, 1) := by decide +kernel
theorem dJ6_bitCount_0f7a4_28 : decode cJ6_bitCount_0f7a4 28 = .ok (.iadd, 1) := by decide +kernel
theorem dJ6_bitCount_0f7a4_29 : decode cJ6_bitCount_0f7a4 29 = .ok (.ldc_w 267, 3) := by decide +kernel
theorem dJ6_bitCount_0f7a4_32 : decode cJ6_bitCount_0f7a4 32 = .ok (.iand, 1) := by decide +kernel
theorem dJ6_bitCount_0f7a4_33 : decode cJ6_bitCount_0f7a4 33 = .ok (.istore_n 0, 1) := by decide +kernel
theorem dJ6_bitCount_0f7a4_34 : decode cJ6_bitCount_0f7a4 34 = .ok (.iload_n 0, 1) := by decide +kernel
theorem dJ6_bitCount_0f7a4_35 : decode cJ6_bitCount_0f7a4 35 = .ok (.iload_n 0, 1) := by decide +kernel
theorem dJ6_bitCount_0f7a4_36 : decode cJ6_bitCount_0f7a4 36 = .ok (.bipush 8, 2) := by decide +kernel
theorem dJ6_bitCount_0f7a4_38 : decode cJ6_bitCount_0f7a4 38 = .ok (.iushr, 1) := by decide +kernel
theorem dJ6_bitCount_0f7a4_39 : decode cJ6_bitCount_0f7a4 39 = .ok (.iadd, 1) := by decide +kernel
theorem dJ6_bitCount_0f7a4_40 : decode cJ6_bitCount_0f7a4 40 = .ok (.istore_n 0, 1) := by decide +kernel
theorem dJ6_bitCount_0f7a4_41 : decode cJ6_bitCount_0f7a4 41 = .ok (.iload_n 0, 1) := by decide +kernel
theorem dJ6_bitCount_0f7a4_42 : decode cJ6_bitCount_0f7a4 42 = .ok (.iload_n 0, 1) := by decide +kernel
