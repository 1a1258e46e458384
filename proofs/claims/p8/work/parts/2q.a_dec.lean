theorem dX11_cross_0 : decode cX11_cross 0 = .ok (.iload_n 1, 1) := by decide +kernel
theorem dX11_cross_1 : decode cX11_cross 1 = .ok (.ifCond .eq 8, 3) := by decide +kernel
theorem dX11_cross_4 : decode cX11_cross 4 = .ok (.iload_n 1, 1) := by decide +kernel
theorem dX11_cross_5 : decode cX11_cross 5 = .ok (.iconst 1, 1) := by decide +kernel
theorem dX11_cross_6 : decode cX11_cross 6 = .ok (.if_icmp .ne 27, 3) := by decide +kernel
theorem dX11_cross_9 : decode cX11_cross 9 = .ok (.aload_n 0, 1) := by decide +kernel
theorem dX11_cross_10 : decode cX11_cross 10 = .ok (.getfield 35, 3) := by decide +kernel
theorem dX11_cross_13 : decode cX11_cross 13 = .ok (.aload_n 0, 1) := by decide +kernel
theorem dX11_cross_14 : decode cX11_cross 14 = .ok (.getfield 74, 3) := by decide +kernel
theorem dX11_cross_17 : decode cX11_cross 17 = .ok (.iload_n 1, 1) := by decide +kernel
theorem dX11_cross_18 : decode cX11_cross 18 = .ok (.iconst 1, 1) := by decide +kernel
theorem dX11_cross_19 : decode cX11_cross 19 = .ok (.if_icmp .ne 7, 3) := by decide +kernel
theorem dX11_cross_22 : decode cX11_cross 22 = .ok (.iconst 1, 1) := by decide +kernel
theorem dX11_cross_23 : decode cX11_cross 23 = .ok (.goto 4, 3) := by decide +kernel
theorem dX11_cross_26 : decode cX11_cross 26 = .ok (.iconst 0, 1) := by decide +kernel
theorem dX11_cross_27 : decode cX11_cross 27 = .ok (.invokevirtual 232, 3) := by decide +kernel
theorem dX11_cross_30 : decode cX11_cross 30 = .ok (.goto 4, 3) := by decide +kernel
theorem dX11_cross_33 : decode cX11_cross 33 = .ok (.iconst (-1), 1) := by decide +kernel
theorem dX11_cross_34 : decode cX11_cross 34 = .ok (.ireturn, 1) := by decide +kernel
theorem dX11_fewest_0 : decode cX11_fewest 0 = .ok (.iload_n 1, 1) := by decide +kernel
theorem dX11_fewest_1 : decode cX11_fewest 1 = .ok (.iconst (-1), 1) := by decide +kernel
theorem dX11_fewest_2 : decode cX11_fewest 2 = .ok (.if_icmp .eq 18, 3) := by decide +kernel
theorem dX11_fewest_5 : decode cX11_fewest 5 = .ok (.aload_n 0, 1) := by decide +kernel
theorem dX11_fewest_6 : decode cX11_fewest 6 = .ok (.getfield 74, 3) := by decide +kernel
theorem dX11_fewest_9 : decode cX11_fewest 9 = .ok (.bipush 6, 2) := by decide +kernel
theorem dX11_fewest_11 : decode cX11_fewest 11 = .ok (.iload_n 1, 1) := by decide +kernel
theorem dX11_fewest_12 : decode cX11_fewest 12 = .ok (.invokevirtual 125, 3) := by decide +kernel
theorem dX11_fewest_15 : decode cX11_fewest 15 = .ok (.ifCond .ne 5, 3) := by decide +kernel
theorem dX11_fewest_18 : decode cX11_fewest 18 = .ok (.iconst (-1), 1) := by decide +kernel
theorem dX11_fewest_19 : decode cX11_fewest 19 = .ok (.ireturn, 1) := by decide +kernel
theorem dX11_fewest_20 : decode cX11_fewest 20 = .ok (.aload_n 0, 1) := by decide +kernel
theorem dX11_fewest_21 : decode cX11_fewest 21 = .ok (.getfield 35, 3) := by decide +kernel
theorem dX11_fewest_24 : decode cX11_fewest 24 = .ok (.aload_n 0, 1) := by decide +kernel
theorem dX11_fewest_25 : decode cX11_fewest 25 = .ok (.getfield 74, 3) := by decide +kernel
theorem dX11_fewest_28 : decode cX11_fewest 28 = .ok (.invokevirtual 236, 3) := by decide +kernel
theorem dX11_fewest_31 : decode cX11_fewest 31 = .ok (.istore_n 2, 1) := by decide +kernel
theorem dX11_fewest_32 : decode cX11_fewest 32 = .ok (.iload_n 1, 1) := by decide +kernel
theorem dX11_fewest_33 : decode cX11_fewest 33 = .ok (.iconst (-1), 1) := by decide +kernel
theorem dX11_fewest_34 : decode cX11_fewest 34 = .ok (.if_icmp .ne 7, 3) := by decide +kernel
theorem dX11_fewest_37 : decode cX11_fewest 37 = .ok (.iload_n 2, 1) := by decide +kernel
theorem dX11_fewest_38 : decode cX11_fewest 38 = .ok (.goto 12, 3) := by decide +kernel
theorem dX11_fewest_41 : decode cX11_fewest 41 = .ok (.aload_n 0, 1) := by decide +kernel
theorem dX11_fewest_42 : decode cX11_fewest 42 = .ok (.getfield 35, 3) := by decide +kernel
theorem dX11_fewest_45 : decode cX11_fewest 45 = .ok (.getfield 239, 3) := by decide +kernel
theorem dX11_fewest_48 : decode cX11_fewest 48 = .ok (.iload_n 1, 1) := by decide +kernel
theorem dX11_fewest_49 : decode cX11_fewest 49 = .ok (.iaload, 1) := by decide +kernel
theorem dX11_fewest_50 : decode cX11_fewest 50 = .ok (.ireturn, 1) := by decide +kernel
theorem dX11_order_0 : decode cX11_order 0 = .ok (.aload_n 0, 1) := by decide +kernel
theorem dX11_order_1 : decode cX11_order 1 = .ok (.getfield 74, 3) := by decide +kernel
theorem dX11_order_4 : decode cX11_order 4 = .ok (.bipush 6, 2) := by decide +kernel
theorem dX11_order_6 : decode cX11_order 6 = .ok (.iload_n 1, 1) := by decide +kernel
theorem dX11_order_7 : decode cX11_order 7 = .ok (.invokevirtual 125, 3) := by decide +kernel
theorem dX11_order_10 : decode cX11_order 10 = .ok (.ifCond .eq 18, 3) := by decide +kernel
theorem dX11_order_13 : decode cX11_order 13 = .ok (.aload_n 0, 1) := by decide +kernel
theorem dX11_order_14 : decode cX11_order 14 = .ok (.getfield 35, 3) := by decide +kernel
theorem dX11_order_17 : decode cX11_order 17 = .ok (.aload_n 0, 1) := by decide +kernel
theorem dX11_order_18 : decode cX11_order 18 = .ok (.getfield 74, 3) := by decide +kernel
theorem dX11_order_21 : decode cX11_order 21 = .ok (.iload_n 1, 1) := by decide +kernel
theorem dX11_order_22 : decode cX11_order 22 = .ok (.invokevirtual 242, 3) := by decide +kernel
theorem dX11_order_25 : decode cX11_order 25 = .ok (.goto 4, 3) := by decide +kernel
theorem dX11_order_28 : decode cX11_order 28 = .ok (.iconst (-1), 1) := by decide +kernel
theorem dX11_order_29 : decode cX11_order 29 = .ok (.ireturn, 1) := by decide +kernel
theorem dX11_trial_0 : decode cX11_trial 0 = .ok (.aload_n 0, 1) := by decide +kernel
theorem dX11_trial_1 : decode cX11_trial 1 = .ok (.getfield 74, 3) := by decide +kernel
theorem dX11_trial_4 : decode cX11_trial 4 = .ok (.iconst 1, 1) := by decide +kernel
theorem dX11_trial_5 : decode cX11_trial 5 = .ok (.iload_n 1, 1) := by decide +kernel
theorem dX11_trial_6 : decode cX11_trial 6 = .ok (.invokevirtual 125, 3) := by decide +kernel
theorem dX11_trial_9 : decode cX11_trial 9 = .ok (.ifCond .eq 15, 3) := by decide +kernel
theorem dX11_trial_12 : decode cX11_trial 12 = .ok (.aload_n 0, 1) := by decide +kernel
theorem dX11_trial_13 : decode cX11_trial 13 = .ok (.getfield 42, 3) := by decide +kernel
theorem dX11_trial_16 : decode cX11_trial 16 = .ok (.iload_n 1, 1) := by decide +kernel
theorem dX11_trial_17 : decode cX11_trial 17 = .ok (.iload_n 2, 1) := by decide +kernel
theorem dX11_trial_18 : decode cX11_trial 18 = .ok (.invokevirtual 245, 3) := by decide +kernel
theorem dX11_trial_21 : decode cX11_trial 21 = .ok (.ifCond .ne 9, 3) := by decide +kernel
theorem dX11_trial_24 : decode cX11_trial 24 = .ok (.aload_n 0, 1) := by decide +kernel
theorem dX11_trial_25 : decode cX11_trial 25 = .ok (.iconst 4, 1) := by decide +kernel
theorem dX11_trial_26 : decode cX11_trial 26 = .ok (.invokevirtual 85, 3) := by decide +kernel
theorem dX11_trial_29 : decode cX11_trial 29 = .ok (.ireturn, 1) := by decide +kernel
theorem dX11_trial_30 : decode cX11_trial 30 = .ok (.aload_n 0, 1) := by decide +kernel
theorem dX11_trial_31 : decode cX11_trial 31 = .ok (.getfield 42, 3) := by decide +kernel
theorem dX11_trial_34 : decode cX11_trial 34 = .ok (.aload_n 0, 1) := by decide +kernel
theorem dX11_trial_35 : decode cX11_trial 35 = .ok (.getfield 74, 3) := by decide +kernel
theorem dX11_trial_38 : decode cX11_trial 38 = .ok (.iconst (-1), 1) := by decide +kernel
theorem dX11_trial_39 : decode cX11_trial 39 = .ok (.invokevirtual 249, 3) := by decide +kernel
theorem dX11_trial_42 : decode cX11_trial 42 = .ok (.aload_n 0, 1) := by decide +kernel
theorem dX11_trial_43 : decode cX11_trial 43 = .ok (.getfield 42, 3) := by decide +kernel
theorem dX11_trial_46 : decode cX11_trial 46 = .ok (.getfield 253, 3) := by decide +kernel
theorem dX11_trial_49 : decode cX11_trial 49 = .ok (.ireturn, 1) := by decide +kernel
theorem dX11_fits_0 : decode cX11_fits 0 = .ok (.aload_n 0, 1) := by decide +kernel
theorem dX11_fits_1 : decode cX11_fits 1 = .ok (.getfield 42, 3) := by decide +kernel
theorem dX11_fits_4 : decode cX11_fits 4 = .ok (.aload_n 0, 1) := by decide +kernel
theorem dX11_fits_5 : decode cX11_fits 5 = .ok (.getfield 74, 3) := by decide +kernel
theorem dX11_fits_8 : decode cX11_fits 8 = .ok (.iconst (-1), 1) := by decide +kernel
theorem dX11_fits_9 : decode cX11_fits 9 = .ok (.invokevirtual 249, 3) := by decide +kernel
theorem dX11_fits_12 : decode cX11_fits 12 = .ok (.iload_n 1, 1) := by decide +kernel
theorem dX11_fits_13 : decode cX11_fits 13 = .ok (.iconst (-1), 1) := by decide +kernel
theorem dX11_fits_14 : decode cX11_fits 14 = .ok (.if_icmp .ne 11, 3) := by decide +kernel
theorem dX11_fits_17 : decode cX11_fits 17 = .ok (.aload_n 0, 1) := by decide +kernel
theorem dX11_fits_18 : decode cX11_fits 18 = .ok (.getfield 42, 3) := by decide +kernel
theorem dX11_fits_21 : decode cX11_fits 21 = .ok (.getfield 253, 3) := by decide +kernel
theorem dX11_fits_24 : decode cX11_fits 24 = .ok (.ireturn, 1) := by decide +kernel
theorem dX11_fits_25 : decode cX11_fits 25 = .ok (.iload_n 1, 1) := by decide +kernel
theorem dX11_fits_26 : decode cX11_fits 26 = .ok (.ifCond .lt 31, 3) := by decide +kernel
theorem dX11_fits_29 : decode cX11_fits 29 = .ok (.iload_n 1, 1) := by decide +kernel
theorem dX11_fits_30 : decode cX11_fits 30 = .ok (.aload_n 0, 1) := by decide +kernel
theorem dX11_fits_31 : decode cX11_fits 31 = .ok (.getfield 42, 3) := by decide +kernel
theorem dX11_fits_34 : decode cX11_fits 34 = .ok (.getfield 256, 3) := by decide +kernel
theorem dX11_fits_37 : decode cX11_fits 37 = .ok (.if_icmp .ge 20, 3) := by decide +kernel
theorem dX11_fits_40 : decode cX11_fits 40 = .ok (.iload_n 1, 1) := by decide +kernel
theorem dX11_fits_41 : decode cX11_fits 41 = .ok (.iconst 3, 1) := by decide +kernel
theorem dX11_fits_42 : decode cX11_fits 42 = .ok (.if_icmp .ge 15, 3) := by decide +kernel
theorem dX11_fits_45 : decode cX11_fits 45 = .ok (.aload_n 0, 1) := by decide +kernel
theorem dX11_fits_46 : decode cX11_fits 46 = .ok (.getfield 42, 3) := by decide +kernel
theorem dX11_fits_49 : decode cX11_fits 49 = .ok (.getfield 259, 3) := by decide +kernel
theorem dX11_fits_52 : decode cX11_fits 52 = .ok (.iload_n 1, 1) := by decide +kernel
theorem dX11_fits_53 : decode cX11_fits 53 = .ok (.iaload, 1) := by decide +kernel
theorem dX11_fits_54 : decode cX11_fits 54 = .ok (.goto 4, 3) := by decide +kernel
theorem dX11_fits_57 : decode cX11_fits 57 = .ok (.iconst (-1), 1) := by decide +kernel
theorem dX11_fits_58 : decode cX11_fits 58 = .ok (.ireturn, 1) := by decide +kernel
theorem dX11_would_0 : decode cX11_would 0 = .ok (.aload_n 0, 1) := by decide +kernel
theorem dX11_would_1 : decode cX11_would 1 = .ok (.getfield 74, 3) := by decide +kernel
theorem dX11_would_4 : decode cX11_would 4 = .ok (.iconst 1, 1) := by decide +kernel
theorem dX11_would_5 : decode cX11_would 5 = .ok (.iload_n 1, 1) := by decide +kernel
theorem dX11_would_6 : decode cX11_would 6 = .ok (.invokevirtual 125, 3) := by decide +kernel
theorem dX11_would_9 : decode cX11_would 9 = .ok (.ifCond .ne 5, 3) := by decide +kernel
theorem dX11_would_12 : decode cX11_would 12 = .ok (.iconst (-1), 1) := by decide +kernel
theorem dX11_would_13 : decode cX11_would 13 = .ok (.ireturn, 1) := by decide +kernel
theorem dX11_would_14 : decode cX11_would 14 = .ok (.aload_n 0, 1) := by decide +kernel
theorem dX11_would_15 : decode cX11_would 15 = .ok (.getfield 42, 3) := by decide +kernel
theorem dX11_would_18 : decode cX11_would 18 = .ok (.aload_n 0, 1) := by decide +kernel
theorem dX11_would_19 : decode cX11_would 19 = .ok (.getfield 74, 3) := by decide +kernel
theorem dX11_would_22 : decode cX11_would 22 = .ok (.iload_n 1, 1) := by decide +kernel
theorem dX11_would_23 : decode cX11_would 23 = .ok (.invokevirtual 249, 3) := by decide +kernel
theorem dX11_would_26 : decode cX11_would 26 = .ok (.aload_n 0, 1) := by decide +kernel
theorem dX11_would_27 : decode cX11_would 27 = .ok (.getfield 42, 3) := by decide +kernel
theorem dX11_would_30 : decode cX11_would 30 = .ok (.getfield 260, 3) := by decide +kernel
theorem dX11_would_33 : decode cX11_would 33 = .ok (.ireturn, 1) := by decide +kernel
theorem dX11_unsay_0 : decode cX11_unsay 0 = .ok (.aload_n 0, 1) := by decide +kernel
theorem dX11_unsay_1 : decode cX11_unsay 1 = .ok (.getfield 42, 3) := by decide +kernel
theorem dX11_unsay_4 : decode cX11_unsay 4 = .ok (.getfield 101, 3) := by decide +kernel
theorem dX11_unsay_7 : decode cX11_unsay 7 = .ok (.ifCond .ne 9, 3) := by decide +kernel
theorem dX11_unsay_10 : decode cX11_unsay 10 = .ok (.aload_n 0, 1) := by decide +kernel
theorem dX11_unsay_11 : decode cX11_unsay 11 = .ok (.iconst 4, 1) := by decide +kernel
theorem dX11_unsay_12 : decode cX11_unsay 12 = .ok (.invokevirtual 85, 3) := by decide +kernel
theorem dX11_unsay_15 : decode cX11_unsay 15 = .ok (.ireturn, 1) := by decide +kernel
theorem dX11_unsay_16 : decode cX11_unsay 16 = .ok (.aload_n 0, 1) := by decide +kernel
theorem dX11_unsay_17 : decode cX11_unsay 17 = .ok (.getfield 42, 3) := by decide +kernel
theorem dX11_unsay_20 : decode cX11_unsay 20 = .ok (.dup, 1) := by decide +kernel
theorem dX11_unsay_21 : decode cX11_unsay 21 = .ok (.getfield 101, 3) := by decide +kernel
theorem dX11_unsay_24 : decode cX11_unsay 24 = .ok (.iconst 1, 1) := by decide +kernel
theorem dX11_unsay_25 : decode cX11_unsay 25 = .ok (.isub, 1) := by decide +kernel
theorem dX11_unsay_26 : decode cX11_unsay 26 = .ok (.putfield 101, 3) := by decide +kernel
theorem dX11_unsay_29 : decode cX11_unsay 29 = .ok (.aload_n 0, 1) := by decide +kernel
theorem dX11_unsay_30 : decode cX11_unsay 30 = .ok (.getfield 42, 3) := by decide +kernel
theorem dX11_unsay_33 : decode cX11_unsay 33 = .ok (.getfield 101, 3) := by decide +kernel
theorem dX11_unsay_36 : decode cX11_unsay 36 = .ok (.ireturn, 1) := by decide +kernel
theorem dX11_round_0 : decode cX11_round 0 = .ok (.aload_n 0, 1) := by decide +kernel
theorem dX11_round_1 : decode cX11_round 1 = .ok (.getfield 74, 3) := by decide +kernel
theorem dX11_round_4 : decode cX11_round 4 = .ok (.iconst 3, 1) := by decide +kernel
theorem dX11_round_5 : decode cX11_round 5 = .ok (.iload_n 1, 1) := by decide +kernel
theorem dX11_round_6 : decode cX11_round 6 = .ok (.invokevirtual 125, 3) := by decide +kernel
theorem dX11_round_9 : decode cX11_round 9 = .ok (.ifCond .ne 5, 3) := by decide +kernel
theorem dX11_round_12 : decode cX11_round 12 = .ok (.iconst (-1), 1) := by decide +kernel
theorem dX11_round_13 : decode cX11_round 13 = .ok (.ireturn, 1) := by decide +kernel
theorem dX11_round_14 : decode cX11_round 14 = .ok (.aload_n 0, 1) := by decide +kernel
theorem dX11_round_15 : decode cX11_round 15 = .ok (.getfield 49, 3) := by decide +kernel
theorem dX11_round_18 : decode cX11_round 18 = .ok (.aload_n 0, 1) := by decide +kernel
theorem dX11_round_19 : decode cX11_round 19 = .ok (.getfield 74, 3) := by decide +kernel
theorem dX11_round_22 : decode cX11_round 22 = .ok (.aload_n 0, 1) := by decide +kernel
theorem dX11_round_23 : decode cX11_round 23 = .ok (.getfield 74, 3) := by decide +kernel
theorem dX11_round_26 : decode cX11_round 26 = .ok (.getfield 152, 3) := by decide +kernel
theorem dX11_round_29 : decode cX11_round 29 = .ok (.getfield 168, 3) := by decide +kernel
theorem dX11_round_32 : decode cX11_round 32 = .ok (.iload_n 1, 1) := by decide +kernel
theorem dX11_round_33 : decode cX11_round 33 = .ok (.iaload, 1) := by decide +kernel
theorem dX11_round_34 : decode cX11_round 34 = .ok (.iload_n 2, 1) := by decide +kernel
theorem dX11_round_35 : decode cX11_round 35 = .ok (.invokevirtual 263, 3) := by decide +kernel
theorem dX11_round_38 : decode cX11_round 38 = .ok (.ireturn, 1) := by decide +kernel
theorem dX11_image_0 : decode cX11_image 0 = .ok (.aload_n 0, 1) := by decide +kernel
theorem dX11_image_1 : decode cX11_image 1 = .ok (.getfield 56, 3) := by decide +kernel
theorem dX11_image_4 : decode cX11_image 4 = .ok (.aload_n 0, 1) := by decide +kernel
theorem dX11_image_5 : decode cX11_image 5 = .ok (.getfield 74, 3) := by decide +kernel
theorem dX11_image_8 : decode cX11_image 8 = .ok (.invokevirtual 266, 3) := by decide +kernel
theorem dX11_image_11 : decode cX11_image 11 = .ok (.ireturn, 1) := by decide +kernel
theorem dX11_octet_0 : decode cX11_octet 0 = .ok (.iload_n 1, 1) := by decide +kernel
theorem dX11_octet_1 : decode cX11_octet 1 = .ok (.ifCond .lt 32, 3) := by decide +kernel
theorem dX11_octet_4 : decode cX11_octet 4 = .ok (.iload_n 1, 1) := by decide +kernel
theorem dX11_octet_5 : decode cX11_octet 5 = .ok (.aload_n 0, 1) := by decide +kernel
theorem dX11_octet_6 : decode cX11_octet 6 = .ok (.getfield 56, 3) := by decide +kernel
theorem dX11_octet_9 : decode cX11_octet 9 = .ok (.getfield 269, 3) := by decide +kernel
theorem dX11_octet_12 : decode cX11_octet 12 = .ok (.if_icmp .ge 21, 3) := by decide +kernel
theorem dX11_octet_15 : decode cX11_octet 15 = .ok (.iload_n 1, 1) := by decide +kernel
theorem dX11_octet_16 : decode cX11_octet 16 = .ok (.bipush 36, 2) := by decide +kernel
theorem dX11_octet_18 : decode cX11_octet 18 = .ok (.if_icmp .ge 15, 3) := by decide +kernel
theorem dX11_octet_21 : decode cX11_octet 21 = .ok (.aload_n 0, 1) := by decide +kernel
theorem dX11_octet_22 : decode cX11_octet 22 = .ok (.getfield 56, 3) := by decide +kernel
theorem dX11_octet_25 : decode cX11_octet 25 = .ok (.getfield 270, 3) := by decide +kernel
theorem dX11_octet_28 : decode cX11_octet 28 = .ok (.iload_n 1, 1) := by decide +kernel
theorem dX11_octet_29 : decode cX11_octet 29 = .ok (.iaload, 1) := by decide +kernel
theorem dX11_octet_30 : decode cX11_octet 30 = .ok (.goto 4, 3) := by decide +kernel
theorem dX11_octet_33 : decode cX11_octet 33 = .ok (.iconst (-1), 1) := by decide +kernel
theorem dX11_octet_34 : decode cX11_octet 34 = .ok (.ireturn, 1) := by decide +kernel
theorem dX11_on_0 : decode cX11_on 0 = .ok (.aload_n 0, 1) := by decide +kernel
theorem dX11_on_1 : decode cX11_on 1 = .ok (.getfield 56, 3) := by decide +kernel
theorem dX11_on_4 : decode cX11_on 4 = .ok (.aload_n 0, 1) := by decide +kernel
theorem dX11_on_5 : decode cX11_on 5 = .ok (.getfield 74, 3) := by decide +kernel
theorem dX11_on_8 : decode cX11_on 8 = .ok (.aload_n 0, 1) := by decide +kernel
theorem dX11_on_9 : decode cX11_on 9 = .ok (.getfield 10, 3) := by decide +kernel
theorem dX11_on_12 : decode cX11_on 12 = .ok (.invokevirtual 273, 3) := by decide +kernel
theorem dX11_on_15 : decode cX11_on 15 = .ok (.istore_n 1, 1) := by decide +kernel
theorem dX11_on_16 : decode cX11_on 16 = .ok (.aload_n 0, 1) := by decide +kernel
theorem dX11_on_17 : decode cX11_on 17 = .ok (.getfield 10, 3) := by decide +kernel
theorem dX11_on_20 : decode cX11_on 20 = .ok (.iconst 0, 1) := by decide +kernel
theorem dX11_on_21 : decode cX11_on 21 = .ok (.putfield 93, 3) := by decide +kernel
theorem dX11_on_24 : decode cX11_on 24 = .ok (.iload_n 1, 1) := by decide +kernel
theorem dX11_on_25 : decode cX11_on 25 = .ok (.ifCond .ne 9, 3) := by decide +kernel
theorem dX11_on_28 : decode cX11_on 28 = .ok (.aload_n 0, 1) := by decide +kernel
theorem dX11_on_29 : decode cX11_on 29 = .ok (.iconst 5, 1) := by decide +kernel
theorem dX11_on_30 : decode cX11_on 30 = .ok (.invokevirtual 85, 3) := by decide +kernel
theorem dX11_on_33 : decode cX11_on 33 = .ok (.pop, 1) := by decide +kernel
theorem dX11_on_34 : decode cX11_on 34 = .ok (.iload_n 1, 1) := by decide +kernel
theorem dX11_on_35 : decode cX11_on 35 = .ok (.ireturn, 1) := by decide +kernel
theorem dX11_status_0 : decode cX11_status 0 = .ok (.iload_n 1, 1) := by decide +kernel
theorem dX11_status_1 : decode cX11_status 1 = .ok (.ifCond .lt 18, 3) := by decide +kernel
theorem dX11_status_4 : decode cX11_status 4 = .ok (.iload_n 1, 1) := by decide +kernel
theorem dX11_status_5 : decode cX11_status 5 = .ok (.bipush 6, 2) := by decide +kernel
theorem dX11_status_7 : decode cX11_status 7 = .ok (.if_icmp .ge 12, 3) := by decide +kernel
theorem dX11_status_10 : decode cX11_status 10 = .ok (.aload_n 0, 1) := by decide +kernel
theorem dX11_status_11 : decode cX11_status 11 = .ok (.getfield 67, 3) := by decide +kernel
theorem dX11_status_14 : decode cX11_status 14 = .ok (.iload_n 1, 1) := by decide +kernel
theorem dX11_status_15 : decode cX11_status 15 = .ok (.iaload, 1) := by decide +kernel
theorem dX11_status_16 : decode cX11_status 16 = .ok (.goto 4, 3) := by decide +kernel
theorem dX11_status_19 : decode cX11_status 19 = .ok (.iconst (-1), 1) := by decide +kernel
theorem dX11_status_20 : decode cX11_status 20 = .ok (.ireturn, 1) := by decide +kernel
abbrev tr_d_X11_cross_1 (x1 : Int) (A : St) (z : Int) : Prop := (∃ t6 : Nat, t6 = 51 + 31 * ((A 0 9)).toNat ∧ (((¬ x1 = 1) ∧ (∃ z8 : Int, q_X2_firstCrossing t6 0 A z8 ∧ (z = z8))) ∨ ((x1 = 1) ∧ (∃ z11 : Int, q_X2_firstCrossing t6 1 A z11 ∧ (z = z11)))))
def d_X11_cross_1 (x1 : Int) (A : St) (z : Int) : Prop := tr_d_X11_cross_1 x1 A z
theorem u_d_X11_cross_1 {x1 : Int} {A : St} {z : Int} (h : tr_d_X11_cross_1 x1 A z) : d_X11_cross_1 x1 A z := h
abbrev tr_r_X11_cross (x1 : Int) (A : St) (z : Int) : Prop := (((x1 = 0) ∧ (d_X11_cross_1 x1 A z)) ∨ ((¬ x1 = 0) ∧ (((¬ x1 = 1) ∧ (z = (-1))) ∨ ((x1 = 1) ∧ (d_X11_cross_1 x1 A z)))))
def r_X11_cross (x1 : Int) (A : St) (z : Int) : Prop := tr_r_X11_cross x1 A z
theorem u_r_X11_cross {x1 : Int} {A : St} {z : Int} (h : tr_r_X11_cross x1 A z) : r_X11_cross x1 A z := h
def ws_kc_X11_cross : List Cond := .code yX11_cross cX11_cross 2 (some .int) :: WY
set_option maxHeartbeats 4000000 in
set_option maxRecDepth 100000 in
theorem kc_X11_cross (l : Launch) (dC : Nat → ClassId) (dI : Nat → Nat → Nat) (cB cI cJ cZ cQ : ClassId) (aL aS : Nat) (q : Nat → Nat) (A : St) (x1 : Int) (hI : IK A) (hx1 : (-2147483648 : Int) ≤ x1 ∧ x1 ≤ 2147483647) : KMi l yX11_cross ws_kc_X11_cross ({ frames := 3, cells := 0, slots := 0, locals := 72 } : Room) aL aS (dC, dI) (tyA cB cI cJ cZ cQ) (WK cB cI cJ cZ cQ q) A [.ref (q 0), .int (iI x1)] (fun z u => A = u ∧ r_X11_cross x1 A z ∧ (-2147483648 ≤ z ∧ z ≤ 2147483647)) := by
  refine k_meti (cc := cX11_cross) (maxL := 2) WK_adr (plainFor_of_name (by decide +kernel)) rfl (Nat.le_of_ble_eq_true rfl) (fun p e s m below meth c Q AS ls hx hb hml hown hts hK hDD hA0 hE RET H locs hP hS hl => ?_)
  have hown : s.vm.findClass RX11 = some m.cls := hown
  have hl : lv_has ls 2 [(0, .ref (q 0)), (1, .int (iI x1))] := hl
  have hiX11 : ∀ w ∈ u_ws RX11 TX11 11, w ∈ ws_kc_X11_cross := fun w h => List.mem_cons_of_mem _ (wy_layX11 w h)
  refine lv_iload_n hx hb dX11_cross_0 rfl (lv_at hl 1 rfl) ?_
  have J9_2 : ∀ (H : Heap) (locs : List Loc) (ls : Array Slot), (∀ (z : Int), (d_X11_cross_1 x1 A z) → r_X11_cross x1 A z) → va_P (dC, dI) vwCl (WK cB cI cJ cZ cQ q A) H → va_S AS s.heap H locs → lv_has ls 2 [(0, .ref (q 0)), (1, .int (iI x1))] → W p l e (headSpec ws_kc_X11_cross ({ frames := 3, cells := 0, slots := 0, locals := 72 } : Room)).room s m [.ref (q 0), .int (iI x1)].toArray below meth c H locs 0 0 Q (F0 m 9 ls []) := by
    intro H locs ls hk1 hP hS hl
    refine lv_aload_n hx hb dX11_cross_9 rfl (lv_at hl 0 rfl) ?_
    refine va_get (D := (dC, dI)) (ci := 11) (v := .ref (q 20)) (C := RX11) (T := TX11) (N := 11) hx hb hts hiX11 hown hK hP 0 (wkK) rfl 3 (by decide) (hts _ (List.mem_cons_of_mem _ (wk_in_12 _ (List.mem_of_getElem? (i := 18) rfl)))) (fun _ h9 => h9) rfl dX11_cross_10 ?_
    refine lv_aload_n hx hb dX11_cross_13 rfl (lv_at hl 0 rfl) ?_
    have r5 : (0 : Int) ≤ (A 0 9) ∧ (A 0 9) ≤ 1 := irK_9 hI
    obtain ⟨t6, et6⟩ : ∃ t : Nat, t = 51 + 31 * ((A 0 9)).toNat := ⟨_, rfl⟩
    have ht6 : isT t6 := by rw [et6]; exact isT.b r5
    refine va_get (D := (dC, dI)) (ci := 11) (v := .ref (q (51 + 31 * (A 0 9).toNat))) (C := RX11) (T := TX11) (N := 11) hx hb hts hiX11 hown hK hP 0 (wkK) rfl 9 (by decide) (hts _ (List.mem_cons_of_mem _ (wk_in_10 _ (List.mem_of_getElem? (i := 36) rfl)))) (fun _ h9 => h9) rfl dX11_cross_14 ?_
    refine tp_v (y := .ref (q t6)) (by rw [et6]) ?_
    refine lv_iload_n hx hb dX11_cross_17 rfl (lv_at hl 1 rfl) ?_
    refine lv_iconst (v := iI 1) hx hb dX11_cross_18 (by decide +kernel) ?_
    refine lv_icmp_ne (tgt := 26) hx hb dX11_cross_19 (by decide) (fun c7 => ?_) (fun c7 => ?_)
    · have c7 : ¬ x1 = 1 := mt (i_eq hx1 ⟨by decide, by decide⟩).mpr c7
      refine lv_iconst (v := iI 0) hx hb dX11_cross_26 (by decide +kernel) ?_
      refine k_calli (As := [.ref (q t6), .int (iI 0)]) (rest := []) ⟨hx, hb, hml, hown, hts⟩ hE (kc_X2_firstCrossing l dC dI cB cI cJ cZ cQ aL aS q _ t6 0 hI ht6 ⟨by decide, by decide⟩) (cwV 2 hts (goodVk (wk_in_12 _ (List.mem_of_getElem? (i := 19) rfl)) (wk_in_12 _ (List.mem_of_getElem? (i := 20) rfl)) (wk_in_12 _ (List.mem_of_getElem? (i := 21) rfl)) (wk_in_3 _ (List.mem_of_getElem? (i := 34) rfl)) (wk_in_3 _ (List.mem_of_getElem? (i := 30) rfl))) rfl rfl rfl (by decide +kernel) ⟨Nat.le_of_ble_eq_true rfl, Nat.le_of_ble_eq_true rfl⟩) hK hDD hA0 hP hS 20 2 (wkHR) rfl rfl hl.1 (Nat.le_of_ble_eq_true rfl) dX11_cross_27 (fun z8 A9 H locs hw10 hP hS => ?_)
      obtain ⟨rfl, hw10⟩ := hw10
      have ghw10 : q_X2_firstCrossing t6 0 A z8 := hw10
      have hw10 := hw10.2
      refine lv_goto (tgt := 34) hx hb dX11_cross_30 (by decide) ?_
      exact RET z8 _ _ _ _ _ ⟨rfl, hk1 _ (u_d_X11_cross_1 ⟨t6, et6, (Or.inl ⟨c7, ⟨z8, ghw10, rfl⟩⟩)⟩), hw10⟩ hP hS dX11_cross_34
    · have c7 : x1 = 1 := (i_eq hx1 ⟨by decide, by decide⟩).mp c7
      refine lv_iconst (v := iI 1) hx hb dX11_cross_22 (by decide +kernel) ?_
      refine lv_goto (tgt := 27) hx hb dX11_cross_23 (by decide) ?_
      refine k_calli (As := [.ref (q t6), .int (iI 1)]) (rest := []) ⟨hx, hb, hml, hown, hts⟩ hE (kc_X2_firstCrossing l dC dI cB cI cJ cZ cQ aL aS q _ t6 1 hI ht6 ⟨by decide, by decide⟩) (cwV 2 hts (goodVk (wk_in_12 _ (List.mem_of_getElem? (i := 19) rfl)) (wk_in_12 _ (List.mem_of_getElem? (i := 20) rfl)) (wk_in_12 _ (List.mem_of_getElem? (i := 21) rfl)) (wk_in_3 _ (List.mem_of_getElem? (i := 34) rfl)) (wk_in_3 _ (List.mem_of_getElem? (i := 30) rfl))) rfl rfl rfl (by decide +kernel) ⟨Nat.le_of_ble_eq_true rfl, Nat.le_of_ble_eq_true rfl⟩) hK hDD hA0 hP hS 20 2 (wkHR) rfl rfl hl.1 (Nat.le_of_ble_eq_true rfl) dX11_cross_27 (fun z11 A12 H locs hw13 hP hS => ?_)
      obtain ⟨rfl, hw13⟩ := hw13
      have ghw13 : q_X2_firstCrossing t6 1 A z11 := hw13
      have hw13 := hw13.2
      refine lv_goto (tgt := 34) hx hb dX11_cross_30 (by decide) ?_
      exact RET z11 _ _ _ _ _ ⟨rfl, hk1 _ (u_d_X11_cross_1 ⟨t6, et6, (Or.inr ⟨c7, ⟨z11, ghw13, rfl⟩⟩)⟩), hw13⟩ hP hS dX11_cross_34
  refine lv_if_eq (tgt := 9) hx hb dX11_cross_1 (by decide) (fun c1 => ?_) (fun c1 => ?_)
  · have c1 : x1 = 0 := (i_eq0 hx1).mp c1
    exact J9_2 _ _ _ (fun zq hq => (u_r_X11_cross (Or.inl ⟨c1, hq⟩))) hP hS (lv_sub hl [0, 1] rfl)
  · have c1 : ¬ x1 = 0 := mt (i_eq0 hx1).mpr c1
    refine lv_iload_n hx hb dX11_cross_4 rfl (lv_at hl 1 rfl) ?_
    refine lv_iconst (v := iI 1) hx hb dX11_cross_5 (by decide +kernel) ?_
    refine lv_icmp_ne (tgt := 33) hx hb dX11_cross_6 (by decide) (fun c3 => ?_) (fun c3 => ?_)
    · have c3 : ¬ x1 = 1 := mt (i_eq hx1 ⟨by decide, by decide⟩).mpr c3
      refine lv_iconst (v := iI (-1)) hx hb dX11_cross_33 (by decide +kernel) ?_
      exact RET (-1) _ _ _ _ _ ⟨rfl, (u_r_X11_cross (Or.inr ⟨c1, (Or.inl ⟨c3, rfl⟩)⟩)), ⟨by decide, by decide⟩⟩ hP hS dX11_cross_34
    · have c3 : x1 = 1 := (i_eq hx1 ⟨by decide, by decide⟩).mp c3
      exact J9_2 _ _ _ (fun zq hq => (u_r_X11_cross (Or.inr ⟨c1, (Or.inr ⟨c3, hq⟩)⟩))) hP hS (lv_sub hl [0, 1] rfl)

abbrev tr_d_X11_fewest_1 (x1 : Int) (A : St) (z : Int) (u : St) : Prop := (∃ t12 : Nat, t12 = 51 + 31 * ((A 0 9)).toNat ∧ (∃ z13 : Int, ∃ A14 : St, q_X2_fewestKeys t12 A z13 A14 ∧ (((¬ x1 = (-1)) ∧ (∃ z18 : Int, z18 = A14 21 (x1).toNat ∧ (z = z18 ∧ u = A14))) ∨ ((x1 = (-1)) ∧ (z = z13 ∧ u = A14)))))
def d_X11_fewest_1 (x1 : Int) (A : St) (z : Int) (u : St) : Prop := tr_d_X11_fewest_1 x1 A z u
theorem u_d_X11_fewest_1 {x1 : Int} {A : St} {z : Int} {u : St} (h : tr_d_X11_fewest_1 x1 A z u) : d_X11_fewest_1 x1 A z u := h
abbrev tr_r_X11_fewest (x1 : Int) (A : St) (z : Int) (u : St) : Prop := (((x1 = (-1)) ∧ (d_X11_fewest_1 x1 A z u)) ∨ ((¬ x1 = (-1)) ∧ (∃ t4 : Nat, t4 = 51 + 31 * ((A 0 9)).toNat ∧ (∃ z5 : Int, q_X9_isThere_1_6 t4 x1 A z5 ∧ (((¬ z5 = 0) ∧ (d_X11_fewest_1 x1 A z u)) ∨ ((z5 = 0) ∧ (z = (-1) ∧ u = A)))))))
def r_X11_fewest (x1 : Int) (A : St) (z : Int) (u : St) : Prop := tr_r_X11_fewest x1 A z u
theorem u_r_X11_fewest {x1 : Int} {A : St} {z : Int} {u : St} (h : tr_r_X11_fewest x1 A z u) : r_X11_fewest x1 A z u := h
def ws_kc_X11_fewest : List Cond := .code yX11_fewest cX11_fewest 3 (some .int) :: WY
set_option maxHeartbeats 4000000 in
set_option maxRecDepth 100000 in
theorem kc_X11_fewest (l : Launch) (dC : Nat → ClassId) (dI : Nat → Nat → Nat) (cB cI cJ cZ cQ : ClassId) (aL aS : Nat) (q : Nat → Nat) (A : St) (x1 : Int) (hI : IK A) (hx1 : (-2147483648 : Int) ≤ x1 ∧ x1 ≤ 2147483647) : KMi l yX11_fewest ws_kc_X11_fewest ({ frames := 10, cells := 0, slots := 0, locals := 238 } : Room) aL aS (dC, dI) (tyA cB cI cJ cZ cQ) (WK cB cI cJ cZ cQ q) A [.ref (q 0), .int (iI x1)] (fun z u => r_X11_fewest x1 A z u ∧ IK u ∧ fk [21] [] A u ∧ (-2147483648 ≤ z ∧ z ≤ 2147483647)) := by
  refine k_meti (cc := cX11_fewest) (maxL := 3) WK_adr (plainFor_of_name (by decide +kernel)) rfl (Nat.le_of_ble_eq_true rfl) (fun p e s m below meth c Q AS ls hx hb hml hown hts hK hDD hA0 hE RET H locs hP hS hl => ?_)
  have hown : s.vm.findClass RX11 = some m.cls := hown
  have hl : lv_has ls 3 [(0, .ref (q 0)), (1, .int (iI x1))] := hl
  have hiX11 : ∀ w ∈ u_ws RX11 TX11 11, w ∈ ws_kc_X11_fewest := fun w h => List.mem_cons_of_mem _ (wy_layX11 w h)
  have hiX2 : ∀ w ∈ u_ws RX2 TX2 1, w ∈ ws_kc_X11_fewest := fun w h => List.mem_cons_of_mem _ (wy_layX2 w h)
  refine lv_iload_n hx hb dX11_fewest_0 rfl (lv_at hl 1 rfl) ?_
  refine lv_iconst (v := iI (-1)) hx hb dX11_fewest_1 (by decide +kernel) ?_
  have J20_2 : ∀ (H : Heap) (locs : List Loc) (ls : Array Slot), (x1 = -1 ∨ (0 ≤ x1 ∧ x1 ≤ 5)) → (∀ (z : Int) (u : St), (d_X11_fewest_1 x1 A z u) → r_X11_fewest x1 A z u) → va_P (dC, dI) vwCl (WK cB cI cJ cZ cQ q A) H → va_S AS s.heap H locs → lv_has ls 3 [(0, .ref (q 0)), (1, .int (iI x1))] → W p l e (headSpec ws_kc_X11_fewest ({ frames := 10, cells := 0, slots := 0, locals := 238 } : Room)).room s m [.ref (q 0), .int (iI x1)].toArray below meth c H locs 0 0 Q (F0 m 20 ls []) := by
    intro H locs ls f10 hk1 hP hS hl
    refine lv_aload_n hx hb dX11_fewest_20 rfl (lv_at hl 0 rfl) ?_
    refine va_get (D := (dC, dI)) (ci := 11) (v := .ref (q 20)) (C := RX11) (T := TX11) (N := 11) hx hb hts hiX11 hown hK hP 0 (wkK) rfl 3 (by decide) (hts _ (List.mem_cons_of_mem _ (wk_in_12 _ (List.mem_of_getElem? (i := 18) rfl)))) (fun _ h9 => h9) rfl dX11_fewest_21 ?_
    refine lv_aload_n hx hb dX11_fewest_24 rfl (lv_at hl 0 rfl) ?_
    have r11 : (0 : Int) ≤ (A 0 9) ∧ (A 0 9) ≤ 1 := irK_9 hI
    obtain ⟨t12, et12⟩ : ∃ t : Nat, t = 51 + 31 * ((A 0 9)).toNat := ⟨_, rfl⟩
    have ht12 : isT t12 := by rw [et12]; exact isT.b r11
    refine va_get (D := (dC, dI)) (ci := 11) (v := .ref (q (51 + 31 * (A 0 9).toNat))) (C := RX11) (T := TX11) (N := 11) hx hb hts hiX11 hown hK hP 0 (wkK) rfl 9 (by decide) (hts _ (List.mem_cons_of_mem _ (wk_in_10 _ (List.mem_of_getElem? (i := 36) rfl)))) (fun _ h9 => h9) rfl dX11_fewest_25 ?_
    refine tp_v (y := .ref (q t12)) (by rw [et12]) ?_
    refine k_calli (As := [.ref (q t12)]) (rest := []) ⟨hx, hb, hml, hown, hts⟩ hE (kc_X2_fewestKeys l dC dI cB cI cJ cZ cQ aL aS q _ t12 hI ht12) (cwV 1 hts (goodVk (wk_in_12 _ (List.mem_of_getElem? (i := 24) rfl)) (wk_in_12 _ (List.mem_of_getElem? (i := 25) rfl)) (wk_in_12 _ (List.mem_of_getElem? (i := 26) rfl)) (wk_in_3 _ (List.mem_of_getElem? (i := 34) rfl)) (wk_in_3 _ (List.mem_of_getElem? (i := 40) rfl))) rfl rfl rfl (by decide +kernel) ⟨Nat.le_of_ble_eq_true rfl, Nat.le_of_ble_eq_true rfl⟩) hK hDD hA0 hP hS 20 2 (wkHR) rfl rfl hl.1 (Nat.le_of_ble_eq_true rfl) dX11_fewest_28 (fun z13 A14 H locs hw15 hP hS => ?_)
    have ghw15 : q_X2_fewestKeys t12 A z13 A14 := hw15
    obtain ⟨_, hI, hf16, hw15⟩ := hw15
    refine lv_istore_n (lv' := [(2, .int (iI z13)), (0, .ref (q 0)), (1, .int (iI x1))]) hx hb dX11_fewest_31 rfl hl (by decide) rfl (fun ls hl => ?_)
    refine lv_iload_n hx hb dX11_fewest_32 rfl (lv_at hl 2 rfl) ?_
    refine lv_iconst (v := iI (-1)) hx hb dX11_fewest_33 (by decide +kernel) ?_
    refine lv_icmp_ne (tgt := 41) hx hb dX11_fewest_34 (by decide) (fun c17 => ?_) (fun c17 => ?_)
    · have c17 : ¬ x1 = (-1) := mt (i_eq hx1 ⟨by decide, by decide⟩).mpr c17
      refine lv_aload_n hx hb dX11_fewest_41 rfl (lv_at hl 1 rfl) ?_
      refine va_get (D := (dC, dI)) (ci := 11) (v := .ref (q 20)) (C := RX11) (T := TX11) (N := 11) hx hb hts hiX11 hown hK hP 0 (wkK) rfl 3 (by decide) (hts _ (List.mem_cons_of_mem _ (wk_in_12 _ (List.mem_of_getElem? (i := 18) rfl)))) (fun _ h9 => h9) rfl dX11_fewest_42 ?_
      refine va_get (D := (dC, dI)) (ci := 2) (v := .ref (q 21)) (C := RX2) (T := TX2) (N := 1) hx hb hts hiX2 hown hK hP 20 (wkHR) rfl 0 (by decide) (hts _ (List.mem_cons_of_mem _ (wk_in_12 _ (List.mem_of_getElem? (i := 23) rfl)))) (fun _ h9 => h9) rfl dX11_fewest_45 ?_
      refine lv_iload_n hx hb dX11_fewest_48 rfl (lv_at hl 2 rfl) ?_
      refine x_iald (Wf := WK cB cI cJ cZ cQ q) hx hb hK hP 21 1 (wkHRk) rfl (by omega) (by decide) dX11_fewest_49 (fun z18 hz18 => ?_)
      have rz18 : (-2147483648 : Int) ≤ z18 ∧ z18 ≤ 2147483647 := by rw [hz18]; exact irHRk hI
      have gz18 := Hd.mk hz18
      exact RET z18 _ _ _ _ _ ⟨hk1 _ _ (u_d_X11_fewest_1 ⟨t12, et12, ⟨z13, A14, ghw15, (Or.inl ⟨c17, ⟨z18, gz18.out, ⟨rfl, rfl⟩⟩⟩)⟩⟩), hI, fk.trans (fk.rf) hf16 rfl rfl, rz18⟩ hP hS dX11_fewest_50
    · have c17 : x1 = (-1) := (i_eq hx1 ⟨by decide, by decide⟩).mp c17
      refine lv_iload_n hx hb dX11_fewest_37 rfl (lv_at hl 0 rfl) ?_
      refine lv_goto (tgt := 50) hx hb dX11_fewest_38 (by decide) ?_
      exact RET z13 _ _ _ _ _ ⟨hk1 _ _ (u_d_X11_fewest_1 ⟨t12, et12, ⟨z13, A14, ghw15, (Or.inr ⟨c17, ⟨rfl, rfl⟩⟩)⟩⟩), hI, fk.trans (fk.rf) hf16 rfl rfl, hw15⟩ hP hS dX11_fewest_50
  refine lv_icmp_eq (tgt := 20) hx hb dX11_fewest_2 (by decide) (fun c1 => ?_) (fun c1 => ?_)
  · have c1 : x1 = (-1) := (i_eq hx1 ⟨by decide, by decide⟩).mp c1
    exact J20_2 _ _ _ (by omega) (fun zq uq hq => (u_r_X11_fewest (Or.inl ⟨c1, hq⟩))) hP hS (lv_sub hl [0, 1] rfl)
  · have c1 : ¬ x1 = (-1) := mt (i_eq hx1 ⟨by decide, by decide⟩).mpr c1
    refine lv_aload_n hx hb dX11_fewest_5 rfl (lv_at hl 0 rfl) ?_
    have r3 : (0 : Int) ≤ (A 0 9) ∧ (A 0 9) ≤ 1 := irK_9 hI
    obtain ⟨t4, et4⟩ : ∃ t : Nat, t = 51 + 31 * ((A 0 9)).toNat := ⟨_, rfl⟩
    have ht4 : isT t4 := by rw [et4]; exact isT.b r3
    refine va_get (D := (dC, dI)) (ci := 11) (v := .ref (q (51 + 31 * (A 0 9).toNat))) (C := RX11) (T := TX11) (N := 11) hx hb hts hiX11 hown hK hP 0 (wkK) rfl 9 (by decide) (hts _ (List.mem_cons_of_mem _ (wk_in_10 _ (List.mem_of_getElem? (i := 36) rfl)))) (fun _ h9 => h9) rfl dX11_fewest_6 ?_
    refine tp_v (y := .ref (q t4)) (by rw [et4]) ?_
    refine lv_bipush (v := iI 6) hx hb dX11_fewest_9 (by decide +kernel) ?_
    refine lv_iload_n hx hb dX11_fewest_11 rfl (lv_at hl 1 rfl) ?_
    refine k_calli (As := [.int (iI 6), .int (iI x1)]) (rest := []) ⟨hx, hb, hml, hown, hts⟩ hE (kc_X9_isThere_1_6 l dC dI cB cI cJ cZ cQ aL aS q _ t4 x1 hI ht4 hx1) (cwV 2 hts (goodVk (wk_in_10 _ (List.mem_of_getElem? (i := 54) rfl)) (wk_in_0 _ (List.mem_of_getElem? (i := 22) rfl)) (wk_in_0 _ (List.mem_of_getElem? (i := 23) rfl)) (wk_in_0 _ (List.mem_of_getElem? (i := 6) rfl)) (wk_in_0 _ (List.mem_of_getElem? (i := 24) rfl))) rfl rfl rfl (by decide +kernel) ⟨Nat.le_of_ble_eq_true rfl, Nat.le_of_ble_eq_true rfl⟩) hK hDD hA0 hP hS t4 9 (wkT ht4) rfl rfl hl.1 (Nat.le_of_ble_eq_true rfl) dX11_fewest_12 (fun z5 A6 H locs hw7 hP hS => ?_)
    obtain ⟨rfl, hw7⟩ := hw7
    have ghw7 : q_X9_isThere_1_6 t4 x1 A z5 := hw7
    have hw7 := hw7.2
    have rz5 : 0 ≤ z5 ∧ z5 ≤ 1 := hw7.1
    have hw7 := hw7.2
    refine lv_if_ne (tgt := 20) hx hb dX11_fewest_15 (by decide) (fun c8 => ?_) (fun c8 => ?_)
    · have c8 : ¬ z5 = 0 := mt (i_eq0 (rb rz5 (by decide) (by decide))).mpr c8
      have hw7b := hw7 (by omega)
      clear hw7
      exact J20_2 _ _ _ (by omega) (fun zq uq hq => (u_r_X11_fewest (Or.inr ⟨c1, ⟨t4, et4, ⟨z5, ghw7, (Or.inl ⟨c8, hq⟩)⟩⟩⟩))) hP hS (lv_sub hl [0, 1] rfl)
    · have c8 : z5 = 0 := (i_eq0 (rb rz5 (by decide) (by decide))).mp c8
      clear hw7
      refine lv_iconst (v := iI (-1)) hx hb dX11_fewest_18 (by decide +kernel) ?_
      exact RET (-1) _ _ _ _ _ ⟨(u_r_X11_fewest (Or.inr ⟨c1, ⟨t4, et4, ⟨z5, ghw7, (Or.inr ⟨c8, ⟨rfl, rfl⟩⟩)⟩⟩⟩)), hI, fk.rf, ⟨by decide, by decide⟩⟩ hP hS dX11_fewest_19

abbrev tr_r_X11_order (x1 : Int) (A : St) (z : Int) : Prop := (∃ t2 : Nat, t2 = 51 + 31 * ((A 0 9)).toNat ∧ (∃ z3 : Int, q_X9_isThere_1_6 t2 x1 A z3 ∧ (((z3 = 0) ∧ (z = (-1))) ∨ ((¬ z3 = 0) ∧ (∃ z7 : Int, q_X2_inOrder t2 x1 A z7 ∧ (z = z7))))))
def r_X11_order (x1 : Int) (A : St) (z : Int) : Prop := tr_r_X11_order x1 A z
theorem u_r_X11_order {x1 : Int} {A : St} {z : Int} (h : tr_r_X11_order x1 A z) : r_X11_order x1 A z := h
def ws_kc_X11_order : List Cond := .code yX11_order cX11_order 2 (some .int) :: WY
set_option maxHeartbeats 4000000 in
set_option maxRecDepth 100000 in
theorem kc_X11_order (l : Launch) (dC : Nat → ClassId) (dI : Nat → Nat → Nat) (cB cI cJ cZ cQ : ClassId) (aL aS : Nat) (q : Nat → Nat) (A : St) (x1 : Int) (hI : IK A) (hx1 : (-2147483648 : Int) ≤ x1 ∧ x1 ≤ 2147483647) : KMi l yX11_order ws_kc_X11_order ({ frames := 2, cells := 0, slots := 0, locals := 47 } : Room) aL aS (dC, dI) (tyA cB cI cJ cZ cQ) (WK cB cI cJ cZ cQ q) A [.ref (q 0), .int (iI x1)] (fun z u => A = u ∧ r_X11_order x1 A z ∧ (-2147483648 ≤ z ∧ z ≤ 2147483647)) := by
  refine k_meti (cc := cX11_order) (maxL := 2) WK_adr (plainFor_of_name (by decide +kernel)) rfl (Nat.le_of_ble_eq_true rfl) (fun p e s m below meth c Q AS ls hx hb hml hown hts hK hDD hA0 hE RET H locs hP hS hl => ?_)
  have hown : s.vm.findClass RX11 = some m.cls := hown
  have hl : lv_has ls 2 [(0, .ref (q 0)), (1, .int (iI x1))] := hl
  have hiX11 : ∀ w ∈ u_ws RX11 TX11 11, w ∈ ws_kc_X11_order := fun w h => List.mem_cons_of_mem _ (wy_layX11 w h)
  refine lv_aload_n hx hb dX11_order_0 rfl (lv_at hl 0 rfl) ?_
  have r1 : (0 : Int) ≤ (A 0 9) ∧ (A 0 9) ≤ 1 := irK_9 hI
  obtain ⟨t2, et2⟩ : ∃ t : Nat, t = 51 + 31 * ((A 0 9)).toNat := ⟨_, rfl⟩
  have ht2 : isT t2 := by rw [et2]; exact isT.b r1
  refine va_get (D := (dC, dI)) (ci := 11) (v := .ref (q (51 + 31 * (A 0 9).toNat))) (C := RX11) (T := TX11) (N := 11) hx hb hts hiX11 hown hK hP 0 (wkK) rfl 9 (by decide) (hts _ (List.mem_cons_of_mem _ (wk_in_10 _ (List.mem_of_getElem? (i := 36) rfl)))) (fun _ h9 => h9) rfl dX11_order_1 ?_
  refine tp_v (y := .ref (q t2)) (by rw [et2]) ?_
  refine lv_bipush (v := iI 6) hx hb dX11_order_4 (by decide +kernel) ?_
  refine lv_iload_n hx hb dX11_order_6 rfl (lv_at hl 1 rfl) ?_
  refine k_calli (As := [.int (iI 6), .int (iI x1)]) (rest := []) ⟨hx, hb, hml, hown, hts⟩ hE (kc_X9_isThere_1_6 l dC dI cB cI cJ cZ cQ aL aS q _ t2 x1 hI ht2 hx1) (cwV 2 hts (goodVk (wk_in_10 _ (List.mem_of_getElem? (i := 54) rfl)) (wk_in_0 _ (List.mem_of_getElem? (i := 22) rfl)) (wk_in_0 _ (List.mem_of_getElem? (i := 23) rfl)) (wk_in_0 _ (List.mem_of_getElem? (i := 6) rfl)) (wk_in_0 _ (List.mem_of_getElem? (i := 24) rfl))) rfl rfl rfl (by decide +kernel) ⟨Nat.le_of_ble_eq_true rfl, Nat.le_of_ble_eq_true rfl⟩) hK hDD hA0 hP hS t2 9 (wkT ht2) rfl rfl hl.1 (Nat.le_of_ble_eq_true rfl) dX11_order_7 (fun z3 A4 H locs hw5 hP hS => ?_)
  obtain ⟨rfl, hw5⟩ := hw5
  have ghw5 : q_X9_isThere_1_6 t2 x1 A z3 := hw5
  have hw5 := hw5.2
  have rz3 : 0 ≤ z3 ∧ z3 ≤ 1 := hw5.1
  have hw5 := hw5.2
  refine lv_if_eq (tgt := 28) hx hb dX11_order_10 (by decide) (fun c6 => ?_) (fun c6 => ?_)
  · have c6 : z3 = 0 := (i_eq0 (rb rz3 (by decide) (by decide))).mp c6
    clear hw5
    refine lv_iconst (v := iI (-1)) hx hb dX11_order_28 (by decide +kernel) ?_
    exact RET (-1) _ _ _ _ _ ⟨rfl, (u_r_X11_order ⟨t2, et2, ⟨z3, ghw5, (Or.inl ⟨c6, rfl⟩)⟩⟩), ⟨by decide, by decide⟩⟩ hP hS dX11_order_29
  · have c6 : ¬ z3 = 0 := mt (i_eq0 (rb rz3 (by decide) (by decide))).mpr c6
    have hw5b := hw5 (by omega)
    clear hw5
    refine lv_aload_n hx hb dX11_order_13 rfl (lv_at hl 0 rfl) ?_
    refine va_get (D := (dC, dI)) (ci := 11) (v := .ref (q 20)) (C := RX11) (T := TX11) (N := 11) hx hb hts hiX11 hown hK hP 0 (wkK) rfl 3 (by decide) (hts _ (List.mem_cons_of_mem _ (wk_in_12 _ (List.mem_of_getElem? (i := 18) rfl)))) (fun _ h9 => h9) rfl dX11_order_14 ?_
    refine lv_aload_n hx hb dX11_order_17 rfl (lv_at hl 0 rfl) ?_
    refine va_get (D := (dC, dI)) (ci := 11) (v := .ref (q (51 + 31 * (A 0 9).toNat))) (C := RX11) (T := TX11) (N := 11) hx hb hts hiX11 hown hK hP 0 (wkK) rfl 9 (by decide) (hts _ (List.mem_cons_of_mem _ (wk_in_10 _ (List.mem_of_getElem? (i := 36) rfl)))) (fun _ h9 => h9) rfl dX11_order_18 ?_
    refine tp_v (y := .ref (q t2)) (by rw [et2]) ?_
    refine lv_iload_n hx hb dX11_order_21 rfl (lv_at hl 1 rfl) ?_
    refine k_calli (As := [.ref (q t2), .int (iI x1)]) (rest := []) ⟨hx, hb, hml, hown, hts⟩ hE (kc_X2_inOrder l dC dI cB cI cJ cZ cQ aL aS q _ t2 x1 hI ht2 hx1) (cwV 2 hts (goodVk (wk_in_12 _ (List.mem_of_getElem? (i := 28) rfl)) (wk_in_12 _ (List.mem_of_getElem? (i := 29) rfl)) (wk_in_12 _ (List.mem_of_getElem? (i := 30) rfl)) (wk_in_3 _ (List.mem_of_getElem? (i := 34) rfl)) (wk_in_3 _ (List.mem_of_getElem? (i := 50) rfl))) rfl rfl rfl (by decide +kernel) ⟨Nat.le_of_ble_eq_true rfl, Nat.le_of_ble_eq_true rfl⟩) hK hDD hA0 hP hS 20 2 (wkHR) rfl rfl hl.1 (Nat.le_of_ble_eq_true rfl) dX11_order_22 (fun z7 A8 H locs hw9 hP hS => ?_)
    obtain ⟨rfl, hw9⟩ := hw9
    have ghw9 : q_X2_inOrder t2 x1 A z7 := hw9
    have hw9 := hw9.2
    refine lv_goto (tgt := 29) hx hb dX11_order_25 (by decide) ?_
    exact RET z7 _ _ _ _ _ ⟨rfl, (u_r_X11_order ⟨t2, et2, ⟨z3, ghw5, (Or.inr ⟨c6, ⟨z7, ghw9, rfl⟩⟩)⟩⟩), hw9⟩ hP hS dX11_order_29

abbrev tr_r_X11_trial (x1 : Int) (x2 : Int) (A : St) (z : Int) (u : St) : Prop := (∃ t2 : Nat, t2 = 51 + 31 * ((A 0 9)).toNat ∧ (∃ z3 : Int, q_X9_isThere_1_1 t2 x1 A z3 ∧ (((z3 = 0) ∧ (∃ z7 : Int, ∃ A8 : St, q_X11_refused 4 A z7 A8 ∧ (z = z7 ∧ u = A8))) ∨ ((¬ z3 = 0) ∧ (∃ z11 : Int, ∃ A12 : St, q_X1_add x1 x2 A z11 A12 ∧ (((¬ z11 = 0) ∧ (∃ A17 : St, q_X1_survey t2 (-1) A12 A17 ∧ (z = (A17 22 5) ∧ u = A17))) ∨ ((z11 = 0) ∧ (∃ z21 : Int, ∃ A22 : St, q_X11_refused 4 A12 z21 A22 ∧ (z = z21 ∧ u = A22)))))))))
def r_X11_trial (x1 : Int) (x2 : Int) (A : St) (z : Int) (u : St) : Prop := tr_r_X11_trial x1 x2 A z u
theorem u_r_X11_trial {x1 : Int} {x2 : Int} {A : St} {z : Int} {u : St} (h : tr_r_X11_trial x1 x2 A z u) : r_X11_trial x1 x2 A z u := h
def ws_kc_X11_trial : List Cond := .code yX11_trial cX11_trial 3 (some .int) :: WY
set_option maxHeartbeats 4000000 in
set_option maxRecDepth 100000 in
theorem kc_X11_trial (l : Launch) (dC : Nat → ClassId) (dI : Nat → Nat → Nat) (cB cI cJ cZ cQ : ClassId) (aL aS : Nat) (q : Nat → Nat) (A : St) (x1 x2 : Int) (hI : IK A) (hx1 : (-2147483648 : Int) ≤ x1 ∧ x1 ≤ 2147483647) (hx2 : (0 : Int) ≤ x2 ∧ x2 ≤ 1) : KMi l yX11_trial ws_kc_X11_trial ({ frames := 4, cells := 0, slots := 0, locals := 93 } : Room) aL aS (dC, dI) (tyA cB cI cJ cZ cQ) (WK cB cI cJ cZ cQ q) A [.ref (q 0), .int (iI x1), .int (iI x2)] (fun z u => r_X11_trial x1 x2 A z u ∧ IK u ∧ fk [23, 24, 25, 26, 50] [(22, 4), (22, 5), (22, 6), (22, 7)] A u ∧ (-2147483648 ≤ z ∧ z ≤ 2147483647)) := by
  refine k_meti (cc := cX11_trial) (maxL := 3) WK_adr (plainFor_of_name (by decide +kernel)) rfl (Nat.le_of_ble_eq_true rfl) (fun p e s m below meth c Q AS ls hx hb hml hown hts hK hDD hA0 hE RET H locs hP hS hl => ?_)
  have hown : s.vm.findClass RX11 = some m.cls := hown
  have hl : lv_has ls 3 [(0, .ref (q 0)), (1, .int (iI x1)), (2, .int (iI x2))] := hl
  have hiX11 : ∀ w ∈ u_ws RX11 TX11 11, w ∈ ws_kc_X11_trial := fun w h => List.mem_cons_of_mem _ (wy_layX11 w h)
  have hiX1 : ∀ w ∈ u_ws RX1 TX1 8, w ∈ ws_kc_X11_trial := fun w h => List.mem_cons_of_mem _ (wy_layX1 w h)
  refine lv_aload_n hx hb dX11_trial_0 rfl (lv_at hl 0 rfl) ?_
  have r1 : (0 : Int) ≤ (A 0 9) ∧ (A 0 9) ≤ 1 := irK_9 hI
  obtain ⟨t2, et2⟩ : ∃ t : Nat, t = 51 + 31 * ((A 0 9)).toNat := ⟨_, rfl⟩
  have ht2 : isT t2 := by rw [et2]; exact isT.b r1
  refine va_get (D := (dC, dI)) (ci := 11) (v := .ref (q (51 + 31 * (A 0 9).toNat))) (C := RX11) (T := TX11) (N := 11) hx hb hts hiX11 hown hK hP 0 (wkK) rfl 9 (by decide) (hts _ (List.mem_cons_of_mem _ (wk_in_10 _ (List.mem_of_getElem? (i := 36) rfl)))) (fun _ h9 => h9) rfl dX11_trial_1 ?_
  refine tp_v (y := .ref (q t2)) (by rw [et2]) ?_
  refine lv_iconst (v := iI 1) hx hb dX11_trial_4 (by decide +kernel) ?_
  refine lv_iload_n hx hb dX11_trial_5 rfl (lv_at hl 1 rfl) ?_
  refine k_calli (As := [.int (iI 1), .int (iI x1)]) (rest := []) ⟨hx, hb, hml, hown, hts⟩ hE (kc_X9_isThere_1_1 l dC dI cB cI cJ cZ cQ aL aS q _ t2 x1 hI ht2 hx1) (cwV 2 hts (goodVk (wk_in_10 _ (List.mem_of_getElem? (i := 54) rfl)) (wk_in_0 _ (List.mem_of_getElem? (i := 22) rfl)) (wk_in_0 _ (List.mem_of_getElem? (i := 23) rfl)) (wk_in_0 _ (List.mem_of_getElem? (i := 6) rfl)) (wk_in_0 _ (List.mem_of_getElem? (i := 24) rfl))) rfl rfl rfl (by decide +kernel) ⟨Nat.le_of_ble_eq_true rfl, Nat.le_of_ble_eq_true rfl⟩) hK hDD hA0 hP hS t2 9 (wkT ht2) rfl rfl hl.1 (Nat.le_of_ble_eq_true rfl) dX11_trial_6 (fun z3 A4 H locs hw5 hP hS => ?_)
  obtain ⟨rfl, hw5⟩ := hw5
  have ghw5 : q_X9_isThere_1_1 t2 x1 A z3 := hw5
  have hw5 := hw5.2
  have rz3 : 0 ≤ z3 ∧ z3 ≤ 1 := hw5.1
  have hw5 := hw5.2
  refine lv_if_eq (tgt := 24) hx hb dX11_trial_9 (by decide) (fun c6 => ?_) (fun c6 => ?_)
  · have c6 : z3 = 0 := (i_eq0 (rb rz3 (by decide) (by decide))).mp c6
    clear hw5
    refine lv_aload_n hx hb dX11_trial_24 rfl (lv_at hl 0 rfl) ?_
    refine lv_iconst (v := iI 4) hx hb dX11_trial_25 (by decide +kernel) ?_
    refine k_calli (As := [.int (iI 4)]) (rest := []) ⟨hx, hb, hml, hown, hts⟩ hE (kc_X11_refused l dC dI cB cI cJ cZ cQ aL aS q _ 4 hI ⟨by decide, by decide⟩) (cwV 1 hts (goodVk (wk_in_10 _ (List.mem_of_getElem? (i := 23) rfl)) (wk_in_10 _ (List.mem_of_getElem? (i := 24) rfl)) (wk_in_10 _ (List.mem_of_getElem? (i := 25) rfl)) (wk_in_10 _ (List.mem_of_getElem? (i := 26) rfl)) (wk_in_10 _ (List.mem_of_getElem? (i := 27) rfl))) rfl rfl rfl (by decide +kernel) ⟨Nat.le_of_ble_eq_true rfl, Nat.le_of_ble_eq_true rfl⟩) hK hDD hA0 hP hS 0 11 (wkK) rfl rfl hl.1 (Nat.le_of_ble_eq_true rfl) dX11_trial_26 (fun z7 A8 H locs hw9 hP hS => ?_)
    have ghw9 : q_X11_refused 4 A z7 A8 := hw9
    obtain ⟨_, hI, hf10, hw9⟩ := hw9
    exact RET z7 _ _ _ _ _ ⟨(u_r_X11_trial ⟨t2, et2, ⟨z3, ghw5, (Or.inl ⟨c6, ⟨z7, A8, ghw9, ⟨rfl, rfl⟩⟩⟩)⟩⟩), hI, fk.trans (fk.rf) hf10 rfl rfl, (by omega)⟩ hP hS dX11_trial_29
  · have c6 : ¬ z3 = 0 := mt (i_eq0 (rb rz3 (by decide) (by decide))).mpr c6
    have hw5b := hw5 (by omega)
    clear hw5
    refine lv_aload_n hx hb dX11_trial_12 rfl (lv_at hl 0 rfl) ?_
    refine va_get (D := (dC, dI)) (ci := 11) (v := .ref (q 22)) (C := RX11) (T := TX11) (N := 11) hx hb hts hiX11 hown hK hP 0 (wkK) rfl 4 (by decide) (hts _ (List.mem_cons_of_mem _ (wk_in_10 _ (List.mem_of_getElem? (i := 37) rfl)))) (fun _ h9 => h9) rfl dX11_trial_13 ?_
    refine lv_iload_n hx hb dX11_trial_16 rfl (lv_at hl 1 rfl) ?_
    refine lv_iload_n hx hb dX11_trial_17 rfl (lv_at hl 2 rfl) ?_
    refine k_calli (As := [.int (iI x1), .int (iI x2)]) (rest := []) ⟨hx, hb, hml, hown, hts⟩ hE (kc_X1_add l dC dI cB cI cJ cZ cQ aL aS q _ x1 x2 hI hx1 hx2) (cwV 2 hts (goodVk (wk_in_12 _ (List.mem_of_getElem? (i := 33) rfl)) (wk_in_12 _ (List.mem_of_getElem? (i := 34) rfl)) (wk_in_12 _ (List.mem_of_getElem? (i := 35) rfl)) (wk_in_3 _ (List.mem_of_getElem? (i := 13) rfl)) (wk_in_3 _ (List.mem_of_getElem? (i := 1) rfl))) rfl rfl rfl (by decide +kernel) ⟨Nat.le_of_ble_eq_true rfl, Nat.le_of_ble_eq_true rfl⟩) hK hDD hA0 hP hS 22 1 (wkFD) rfl rfl hl.1 (Nat.le_of_ble_eq_true rfl) dX11_trial_18 (fun z11 A12 H locs hw13 hP hS => ?_)
    have ghw13 : q_X1_add x1 x2 A z11 A12 := hw13
    obtain ⟨_, hI, hf14, hw13⟩ := hw13
    refine lv_if_ne (tgt := 30) hx hb dX11_trial_21 (by decide) (fun c15 => ?_) (fun c15 => ?_)
    · have c15 : ¬ z11 = 0 := mt (i_eq0 (rb hw13 (by decide) (by decide))).mpr c15
      refine lv_aload_n hx hb dX11_trial_30 rfl (lv_at hl 0 rfl) ?_
      refine va_get (D := (dC, dI)) (ci := 11) (v := .ref (q 22)) (C := RX11) (T := TX11) (N := 11) hx hb hts hiX11 hown hK hP 0 (wkK) rfl 4 (by decide) (hts _ (List.mem_cons_of_mem _ (wk_in_10 _ (List.mem_of_getElem? (i := 37) rfl)))) (fun _ h9 => h9) rfl dX11_trial_31 ?_
      refine lv_aload_n hx hb dX11_trial_34 rfl (lv_at hl 0 rfl) ?_
      have e16 : A12 0 9 = (A 0 9) := (hf14 0 9 rfl rfl)
      refine va_get (D := (dC, dI)) (ci := 11) (v := .ref (q (51 + 31 * (A12 0 9).toNat))) (C := RX11) (T := TX11) (N := 11) hx hb hts hiX11 hown hK hP 0 (wkK) rfl 9 (by decide) (hts _ (List.mem_cons_of_mem _ (wk_in_10 _ (List.mem_of_getElem? (i := 36) rfl)))) (fun _ h9 => h9) rfl dX11_trial_35 ?_
      refine tp_v (y := .ref (q t2)) (by rw [et2, e16]) ?_
      refine lv_iconst (v := iI (-1)) hx hb dX11_trial_38 (by decide +kernel) ?_
      refine k_callv (As := [.ref (q t2), .int (iI (-1))]) (rest := []) ⟨hx, hb, hml, hown, hts⟩ hE (kc_X1_survey l dC dI cB cI cJ cZ cQ aL aS q _ t2 (-1) hI ht2 ⟨by decide, by decide⟩) (cwV 2 hts (goodVk (wk_in_12 _ (List.mem_of_getElem? (i := 36) rfl)) (wk_in_12 _ (List.mem_of_getElem? (i := 37) rfl)) (wk_in_12 _ (List.mem_of_getElem? (i := 38) rfl)) (wk_in_3 _ (List.mem_of_getElem? (i := 13) rfl)) (wk_in_3 _ (List.mem_of_getElem? (i := 5) rfl))) rfl rfl rfl (by decide +kernel) ⟨Nat.le_of_ble_eq_true rfl, Nat.le_of_ble_eq_true rfl⟩) hK hDD hA0 hP hS 22 1 (wkFD) rfl rfl hl.1 (Nat.le_of_ble_eq_true rfl) dX11_trial_39 (fun A17 H locs hw18 hP hS => ?_)
      have ghw18 : q_X1_survey t2 (-1) A12 A17 := hw18
      obtain ⟨_, hI, hf19, hw18⟩ := hw18
      clear hw18
      refine lv_aload_n hx hb dX11_trial_42 rfl (lv_at hl 0 rfl) ?_
      refine va_get (D := (dC, dI)) (ci := 11) (v := .ref (q 22)) (C := RX11) (T := TX11) (N := 11) hx hb hts hiX11 hown hK hP 0 (wkK) rfl 4 (by decide) (hts _ (List.mem_cons_of_mem _ (wk_in_10 _ (List.mem_of_getElem? (i := 37) rfl)))) (fun _ h9 => h9) rfl dX11_trial_43 ?_
      have r20 : (-2147483648 : Int) ≤ (A17 22 5) ∧ (A17 22 5) ≤ 2147483647 := irFD_5 hI
      refine va_get (D := (dC, dI)) (ci := 1) (v := .int (iI (A17 22 5))) (C := RX1) (T := TX1) (N := 8) hx hb hts hiX1 hown hK hP 22 (wkFD) rfl 5 (by decide) (hts _ (List.mem_cons_of_mem _ (wk_in_12 _ (List.mem_of_getElem? (i := 32) rfl)))) (fun _ h9 => h9) rfl dX11_trial_46 ?_
      exact RET (A17 22 5) _ _ _ _ _ ⟨(u_r_X11_trial ⟨t2, et2, ⟨z3, ghw5, (Or.inr ⟨c6, ⟨z11, A12, ghw13, (Or.inl ⟨c15, ⟨A17, ghw18, ⟨rfl, rfl⟩⟩⟩)⟩⟩)⟩⟩), hI, fk.trans (fk.trans (fk.rf) hf14 rfl rfl) hf19 rfl rfl, r20⟩ hP hS dX11_trial_49
    · have c15 : z11 = 0 := (i_eq0 (rb hw13 (by decide) (by decide))).mp c15
      refine lv_aload_n hx hb dX11_trial_24 rfl (lv_at hl 0 rfl) ?_
      refine lv_iconst (v := iI 4) hx hb dX11_trial_25 (by decide +kernel) ?_
      refine k_calli (As := [.int (iI 4)]) (rest := []) ⟨hx, hb, hml, hown, hts⟩ hE (kc_X11_refused l dC dI cB cI cJ cZ cQ aL aS q _ 4 hI ⟨by decide, by decide⟩) (cwV 1 hts (goodVk (wk_in_10 _ (List.mem_of_getElem? (i := 23) rfl)) (wk_in_10 _ (List.mem_of_getElem? (i := 24) rfl)) (wk_in_10 _ (List.mem_of_getElem? (i := 25) rfl)) (wk_in_10 _ (List.mem_of_getElem? (i := 26) rfl)) (wk_in_10 _ (List.mem_of_getElem? (i := 27) rfl))) rfl rfl rfl (by decide +kernel) ⟨Nat.le_of_ble_eq_true rfl, Nat.le_of_ble_eq_true rfl⟩) hK hDD hA0 hP hS 0 11 (wkK) rfl rfl hl.1 (Nat.le_of_ble_eq_true rfl) dX11_trial_26 (fun z21 A22 H locs hw23 hP hS => ?_)
      have ghw23 : q_X11_refused 4 A12 z21 A22 := hw23
      obtain ⟨_, hI, hf24, hw23⟩ := hw23
      exact RET z21 _ _ _ _ _ ⟨(u_r_X11_trial ⟨t2, et2, ⟨z3, ghw5, (Or.inr ⟨c6, ⟨z11, A12, ghw13, (Or.inr ⟨c15, ⟨z21, A22, ghw23, ⟨rfl, rfl⟩⟩⟩)⟩⟩)⟩⟩), hI, fk.trans (fk.trans (fk.rf) hf14 rfl rfl) hf24 rfl rfl, (by omega)⟩ hP hS dX11_trial_29

abbrev tr_r_X11_fits (x1 : Int) (A : St) (z : Int) (u : St) : Prop := (∃ t2 : Nat, t2 = 51 + 31 * ((A 0 9)).toNat ∧ (∃ A3 : St, q_X1_survey t2 (-1) A A3 ∧ (((¬ x1 = (-1)) ∧ (((x1 < 0) ∧ (z = (-1) ∧ u = A3)) ∨ ((¬ x1 < 0) ∧ ((((A3 22 6) ≤ x1) ∧ (z = (-1) ∧ u = A3)) ∨ ((¬ (A3 22 6) ≤ x1) ∧ (((3 ≤ x1) ∧ (z = (-1) ∧ u = A3)) ∨ ((¬ 3 ≤ x1) ∧ (∃ z11 : Int, z11 = A3 25 (x1).toNat ∧ (z = z11 ∧ u = A3))))))))) ∨ ((x1 = (-1)) ∧ (z = (A3 22 5) ∧ u = A3)))))
def r_X11_fits (x1 : Int) (A : St) (z : Int) (u : St) : Prop := tr_r_X11_fits x1 A z u
theorem u_r_X11_fits {x1 : Int} {A : St} {z : Int} {u : St} (h : tr_r_X11_fits x1 A z u) : r_X11_fits x1 A z u := h
def ws_kc_X11_fits : List Cond := .code yX11_fits cX11_fits 2 (some .int) :: WY
set_option maxHeartbeats 4000000 in
set_option maxRecDepth 100000 in
theorem kc_X11_fits (l : Launch) (dC : Nat → ClassId) (dI : Nat → Nat → Nat) (cB cI cJ cZ cQ : ClassId) (aL aS : Nat) (q : Nat → Nat) (A : St) (x1 : Int) (hI : IK A) (hx1 : (-2147483648 : Int) ≤ x1 ∧ x1 ≤ 2147483647) : KMi l yX11_fits ws_kc_X11_fits ({ frames := 4, cells := 0, slots := 0, locals := 93 } : Room) aL aS (dC, dI) (tyA cB cI cJ cZ cQ) (WK cB cI cJ cZ cQ q) A [.ref (q 0), .int (iI x1)] (fun z u => r_X11_fits x1 A z u ∧ IK u ∧ fk [25, 26] [(22, 5), (22, 6), (22, 7)] A u ∧ (-2147483648 ≤ z ∧ z ≤ 2147483647)) := by
  refine k_meti (cc := cX11_fits) (maxL := 2) WK_adr (plainFor_of_name (by decide +kernel)) rfl (Nat.le_of_ble_eq_true rfl) (fun p e s m below meth c Q AS ls hx hb hml hown hts hK hDD hA0 hE RET H locs hP hS hl => ?_)
  have hown : s.vm.findClass RX11 = some m.cls := hown
  have hl : lv_has ls 2 [(0, .ref (q 0)), (1, .int (iI x1))] := hl
  have hiX11 : ∀ w ∈ u_ws RX11 TX11 11, w ∈ ws_kc_X11_fits := fun w h => List.mem_cons_of_mem _ (wy_layX11 w h)
  have hiX1 : ∀ w ∈ u_ws RX1 TX1 8, w ∈ ws_kc_X11_fits := fun w h => List.mem_cons_of_mem _ (wy_layX1 w h)
  refine lv_aload_n hx hb dX11_fits_0 rfl (lv_at hl 0 rfl) ?_
  refine va_get (D := (dC, dI)) (ci := 11) (v := .ref (q 22)) (C := RX11) (T := TX11) (N := 11) hx hb hts hiX11 hown hK hP 0 (wkK) rfl 4 (by decide) (hts _ (List.mem_cons_of_mem _ (wk_in_10 _ (List.mem_of_getElem? (i := 37) rfl)))) (fun _ h9 => h9) rfl dX11_fits_1 ?_
  refine lv_aload_n hx hb dX11_fits_4 rfl (lv_at hl 0 rfl) ?_
  have r1 : (0 : Int) ≤ (A 0 9) ∧ (A 0 9) ≤ 1 := irK_9 hI
  obtain ⟨t2, et2⟩ : ∃ t : Nat, t = 51 + 31 * ((A 0 9)).toNat := ⟨_, rfl⟩
  have ht2 : isT t2 := by rw [et2]; exact isT.b r1
  refine va_get (D := (dC, dI)) (ci := 11) (v := .ref (q (51 + 31 * (A 0 9).toNat))) (C := RX11) (T := TX11) (N := 11) hx hb hts hiX11 hown hK hP 0 (wkK) rfl 9 (by decide) (hts _ (List.mem_cons_of_mem _ (wk_in_10 _ (List.mem_of_getElem? (i := 36) rfl)))) (fun _ h9 => h9) rfl dX11_fits_5 ?_
  refine tp_v (y := .ref (q t2)) (by rw [et2]) ?_
  refine lv_iconst (v := iI (-1)) hx hb dX11_fits_8 (by decide +kernel) ?_
  refine k_callv (As := [.ref (q t2), .int (iI (-1))]) (rest := []) ⟨hx, hb, hml, hown, hts⟩ hE (kc_X1_survey l dC dI cB cI cJ cZ cQ aL aS q _ t2 (-1) hI ht2 ⟨by decide, by decide⟩) (cwV 2 hts (goodVk (wk_in_12 _ (List.mem_of_getElem? (i := 36) rfl)) (wk_in_12 _ (List.mem_of_getElem? (i := 37) rfl)) (wk_in_12 _ (List.mem_of_getElem? (i := 38) rfl)) (wk_in_3 _ (List.mem_of_getElem? (i := 13) rfl)) (wk_in_3 _ (List.mem_of_getElem? (i := 5) rfl))) rfl rfl rfl (by decide +kernel) ⟨Nat.le_of_ble_eq_true rfl, Nat.le_of_ble_eq_true rfl⟩) hK hDD hA0 hP hS 22 1 (wkFD) rfl rfl hl.1 (Nat.le_of_ble_eq_true rfl) dX11_fits_9 (fun A3 H locs hw4 hP hS => ?_)
  have ghw4 : q_X1_survey t2 (-1) A A3 := hw4
  obtain ⟨_, hI, hf5, hw4⟩ := hw4
  clear hw4
  refine lv_iload_n hx hb dX11_fits_12 rfl (lv_at hl 1 rfl) ?_
  refine lv_iconst (v := iI (-1)) hx hb dX11_fits_13 (by decide +kernel) ?_
  refine lv_icmp_ne (tgt := 25) hx hb dX11_fits_14 (by decide) (fun c6 => ?_) (fun c6 => ?_)
  · have c6 : ¬ x1 = (-1) := mt (i_eq hx1 ⟨by decide, by decide⟩).mpr c6
    refine lv_iload_n hx hb dX11_fits_25 rfl (lv_at hl 1 rfl) ?_
    refine lv_if_lt (tgt := 57) hx hb dX11_fits_26 (by decide) (fun c7 => ?_) (fun c7 => ?_)
    · have c7 : x1 < 0 := (i_lt0 hx1).mp c7
      refine lv_iconst (v := iI (-1)) hx hb dX11_fits_57 (by decide +kernel) ?_
      exact RET (-1) _ _ _ _ _ ⟨(u_r_X11_fits ⟨t2, et2, ⟨A3, ghw4, (Or.inl ⟨c6, (Or.inl ⟨c7, ⟨rfl, rfl⟩⟩)⟩)⟩⟩), hI, fk.trans (fk.rf) hf5 rfl rfl, ⟨by decide, by decide⟩⟩ hP hS dX11_fits_58
    · have c7 : ¬ x1 < 0 := mt (i_lt0 hx1).mpr c7
      refine lv_iload_n hx hb dX11_fits_29 rfl (lv_at hl 1 rfl) ?_
      refine lv_aload_n hx hb dX11_fits_30 rfl (lv_at hl 0 rfl) ?_
      refine va_get (D := (dC, dI)) (ci := 11) (v := .ref (q 22)) (C := RX11) (T := TX11) (N := 11) hx hb hts hiX11 hown hK hP 0 (wkK) rfl 4 (by decide) (hts _ (List.mem_cons_of_mem _ (wk_in_10 _ (List.mem_of_getElem? (i := 37) rfl)))) (fun _ h9 => h9) rfl dX11_fits_31 ?_
      have r8 : (-2147483648 : Int) ≤ (A3 22 6) ∧ (A3 22 6) ≤ 2147483647 := irFD_6 hI
      refine va_get (D := (dC, dI)) (ci := 1) (v := .int (iI (A3 22 6))) (C := RX1) (T := TX1) (N := 8) hx hb hts hiX1 hown hK hP 22 (wkFD) rfl 6 (by decide) (hts _ (List.mem_cons_of_mem _ (wk_in_12 _ (List.mem_of_getElem? (i := 40) rfl)))) (fun _ h9 => h9) rfl dX11_fits_34 ?_
      refine lv_icmp_ge (tgt := 57) hx hb dX11_fits_37 (by decide) (fun c9 => ?_) (fun c9 => ?_)
      · have c9 : (A3 22 6) ≤ x1 := (i_le r8 hx1).mp c9
        refine lv_iconst (v := iI (-1)) hx hb dX11_fits_57 (by decide +kernel) ?_
        exact RET (-1) _ _ _ _ _ ⟨(u_r_X11_fits ⟨t2, et2, ⟨A3, ghw4, (Or.inl ⟨c6, (Or.inr ⟨c7, (Or.inl ⟨c9, ⟨rfl, rfl⟩⟩)⟩)⟩)⟩⟩), hI, fk.trans (fk.rf) hf5 rfl rfl, ⟨by decide, by decide⟩⟩ hP hS dX11_fits_58
      · have c9 : ¬ (A3 22 6) ≤ x1 := mt (i_le r8 hx1).mpr c9
        refine lv_iload_n hx hb dX11_fits_40 rfl (lv_at hl 1 rfl) ?_
        refine lv_iconst (v := iI 3) hx hb dX11_fits_41 (by decide +kernel) ?_
        refine lv_icmp_ge (tgt := 57) hx hb dX11_fits_42 (by decide) (fun c10 => ?_) (fun c10 => ?_)
        · have c10 : 3 ≤ x1 := (i_le ⟨by decide, by decide⟩ hx1).mp c10
          refine lv_iconst (v := iI (-1)) hx hb dX11_fits_57 (by decide +kernel) ?_
          exact RET (-1) _ _ _ _ _ ⟨(u_r_X11_fits ⟨t2, et2, ⟨A3, ghw4, (Or.inl ⟨c6, (Or.inr ⟨c7, (Or.inr ⟨c9, (Or.inl ⟨c10, ⟨rfl, rfl⟩⟩)⟩)⟩)⟩)⟩⟩), hI, fk.trans (fk.rf) hf5 rfl rfl, ⟨by decide, by decide⟩⟩ hP hS dX11_fits_58
        · have c10 : ¬ 3 ≤ x1 := mt (i_le ⟨by decide, by decide⟩ hx1).mpr c10
          refine lv_aload_n hx hb dX11_fits_45 rfl (lv_at hl 0 rfl) ?_
          refine va_get (D := (dC, dI)) (ci := 11) (v := .ref (q 22)) (C := RX11) (T := TX11) (N := 11) hx hb hts hiX11 hown hK hP 0 (wkK) rfl 4 (by decide) (hts _ (List.mem_cons_of_mem _ (wk_in_10 _ (List.mem_of_getElem? (i := 37) rfl)))) (fun _ h9 => h9) rfl dX11_fits_46 ?_
          refine va_get (D := (dC, dI)) (ci := 1) (v := .ref (q 25)) (C := RX1) (T := TX1) (N := 8) hx hb hts hiX1 hown hK hP 22 (wkFD) rfl 2 (by decide) (hts _ (List.mem_cons_of_mem _ (wk_in_12 _ (List.mem_of_getElem? (i := 41) rfl)))) (fun _ h9 => h9) rfl dX11_fits_49 ?_
          refine lv_iload_n hx hb dX11_fits_52 rfl (lv_at hl 1 rfl) ?_
          refine x_iald (Wf := WK cB cI cJ cZ cQ q) hx hb hK hP 25 1 (wkFDf) rfl (by omega) (by decide) dX11_fits_53 (fun z11 hz11 => ?_)
          have rz11 : (-2147483648 : Int) ≤ z11 ∧ z11 ≤ 2147483647 := by rw [hz11]; exact irFDf hI
          have gz11 := Hd.mk hz11
          refine lv_goto (tgt := 58) hx hb dX11_fits_54 (by decide) ?_
          exact RET z11 _ _ _ _ _ ⟨(u_r_X11_fits ⟨t2, et2, ⟨A3, ghw4, (Or.inl ⟨c6, (Or.inr ⟨c7, (Or.inr ⟨c9, (Or.inr ⟨c10, ⟨z11, gz11.out, ⟨rfl, rfl⟩⟩⟩)⟩)⟩)⟩)⟩⟩), hI, fk.trans (fk.rf) hf5 rfl rfl, rz11⟩ hP hS dX11_fits_58
  · have c6 : x1 = (-1) := (i_eq hx1 ⟨by decide, by decide⟩).mp c6
    refine lv_aload_n hx hb dX11_fits_17 rfl (lv_at hl 0 rfl) ?_
    refine va_get (D := (dC, dI)) (ci := 11) (v := .ref (q 22)) (C := RX11) (T := TX11) (N := 11) hx hb hts hiX11 hown hK hP 0 (wkK) rfl 4 (by decide) (hts _ (List.mem_cons_of_mem _ (wk_in_10 _ (List.mem_of_getElem? (i := 37) rfl)))) (fun _ h9 => h9) rfl dX11_fits_18 ?_
    have r12 : (-2147483648 : Int) ≤ (A3 22 5) ∧ (A3 22 5) ≤ 2147483647 := irFD_5 hI
    refine va_get (D := (dC, dI)) (ci := 1) (v := .int (iI (A3 22 5))) (C := RX1) (T := TX1) (N := 8) hx hb hts hiX1 hown hK hP 22 (wkFD) rfl 5 (by decide) (hts _ (List.mem_cons_of_mem _ (wk_in_12 _ (List.mem_of_getElem? (i := 32) rfl)))) (fun _ h9 => h9) rfl dX11_fits_21 ?_
    exact RET (A3 22 5) _ _ _ _ _ ⟨(u_r_X11_fits ⟨t2, et2, ⟨A3, ghw4, (Or.inr ⟨c6, ⟨rfl, rfl⟩⟩)⟩⟩), hI, fk.trans (fk.rf) hf5 rfl rfl, r12⟩ hP hS dX11_fits_24

abbrev tr_r_X11_would (x1 : Int) (A : St) (z : Int) (u : St) : Prop := (∃ t2 : Nat, t2 = 51 + 31 * ((A 0 9)).toNat ∧ (∃ z3 : Int, q_X9_isThere_1_1 t2 x1 A z3 ∧ (((¬ z3 = 0) ∧ (∃ A7 : St, q_X1_survey t2 x1 A A7 ∧ (z = (A7 22 7) ∧ u = A7))) ∨ ((z3 = 0) ∧ (z = (-1) ∧ u = A)))))
def r_X11_would (x1 : Int) (A : St) (z : Int) (u : St) : Prop := tr_r_X11_would x1 A z u
theorem u_r_X11_would {x1 : Int} {A : St} {z : Int} {u : St} (h : tr_r_X11_would x1 A z u) : r_X11_would x1 A z u := h
def ws_kc_X11_would : List Cond := .code yX11_would cX11_would 2 (some .int) :: WY
set_option maxHeartbeats 4000000 in
set_option maxRecDepth 100000 in
theorem kc_X11_would (l : Launch) (dC : Nat → ClassId) (dI : Nat → Nat → Nat) (cB cI cJ cZ cQ : ClassId) (aL aS : Nat) (q : Nat → Nat) (A : St) (x1 : Int) (hI : IK A) (hx1 : (-2147483648 : Int) ≤ x1 ∧ x1 ≤ 2147483647) : KMi l yX11_would ws_kc_X11_would ({ frames := 4, cells := 0, slots := 0, locals := 93 } : Room) aL aS (dC, dI) (tyA cB cI cJ cZ cQ) (WK cB cI cJ cZ cQ q) A [.ref (q 0), .int (iI x1)] (fun z u => r_X11_would x1 A z u ∧ IK u ∧ fk [25, 26] [(22, 5), (22, 6), (22, 7)] A u ∧ (-2147483648 ≤ z ∧ z ≤ 2147483647)) := by
  refine k_meti (cc := cX11_would) (maxL := 2) WK_adr (plainFor_of_name (by decide +kernel)) rfl (Nat.le_of_ble_eq_true rfl) (fun p e s m below meth c Q AS ls hx hb hml hown hts hK hDD hA0 hE RET H locs hP hS hl => ?_)
  have hown : s.vm.findClass RX11 = some m.cls := hown
  have hl : lv_has ls 2 [(0, .ref (q 0)), (1, .int (iI x1))] := hl
  have hiX11 : ∀ w ∈ u_ws RX11 TX11 11, w ∈ ws_kc_X11_would := fun w h => List.mem_cons_of_mem _ (wy_layX11 w h)
  have hiX1 : ∀ w ∈ u_ws RX1 TX1 8, w ∈ ws_kc_X11_would := fun w h => List.mem_cons_of_mem _ (wy_layX1 w h)
  refine lv_aload_n hx hb dX11_would_0 rfl (lv_at hl 0 rfl) ?_
  have r1 : (0 : Int) ≤ (A 0 9) ∧ (A 0 9) ≤ 1 := irK_9 hI
  obtain ⟨t2, et2⟩ : ∃ t : Nat, t = 51 + 31 * ((A 0 9)).toNat := ⟨_, rfl⟩
  have ht2 : isT t2 := by rw [et2]; exact isT.b r1
  refine va_get (D := (dC, dI)) (ci := 11) (v := .ref (q (51 + 31 * (A 0 9).toNat))) (C := RX11) (T := TX11) (N := 11) hx hb hts hiX11 hown hK hP 0 (wkK) rfl 9 (by decide) (hts _ (List.mem_cons_of_mem _ (wk_in_10 _ (List.mem_of_getElem? (i := 36) rfl)))) (fun _ h9 => h9) rfl dX11_would_1 ?_
  refine tp_v (y := .ref (q t2)) (by rw [et2]) ?_
  refine lv_iconst (v := iI 1) hx hb dX11_would_4 (by decide +kernel) ?_
  refine lv_iload_n hx hb dX11_would_5 rfl (lv_at hl 1 rfl) ?_
  refine k_calli (As := [.int (iI 1), .int (iI x1)]) (rest := []) ⟨hx, hb, hml, hown, hts⟩ hE (kc_X9_isThere_1_1 l dC dI cB cI cJ cZ cQ aL aS q _ t2 x1 hI ht2 hx1) (cwV 2 hts (goodVk (wk_in_10 _ (List.mem_of_getElem? (i := 54) rfl)) (wk_in_0 _ (List.mem_of_getElem? (i := 22) rfl)) (wk_in_0 _ (List.mem_of_getElem? (i := 23) rfl)) (wk_in_0 _ (List.mem_of_getElem? (i := 6) rfl)) (wk_in_0 _ (List.mem_of_getElem? (i := 24) rfl))) rfl rfl rfl (by decide +kernel) ⟨Nat.le_of_ble_eq_true rfl, Nat.le_of_ble_eq_true rfl⟩) hK hDD hA0 hP hS t2 9 (wkT ht2) rfl rfl hl.1 (Nat.le_of_ble_eq_true rfl) dX11_would_6 (fun z3 A4 H locs hw5 hP hS => ?_)
  obtain ⟨rfl, hw5⟩ := hw5
  have ghw5 : q_X9_isThere_1_1 t2 x1 A z3 := hw5
  have hw5 := hw5.2
  have rz3 : 0 ≤ z3 ∧ z3 ≤ 1 := hw5.1
  have hw5 := hw5.2
  refine lv_if_ne (tgt := 14) hx hb dX11_would_9 (by decide) (fun c6 => ?_) (fun c6 => ?_)
  · have c6 : ¬ z3 = 0 := mt (i_eq0 (rb rz3 (by decide) (by decide))).mpr c6
    have hw5b := hw5 (by omega)
    clear hw5
    refine lv_aload_n hx hb dX11_would_14 rfl (lv_at hl 0 rfl) ?_
    refine va_get (D := (dC, dI)) (ci := 11) (v := .ref (q 22)) (C := RX11) (T := TX11) (N := 11) hx hb hts hiX11 hown hK hP 0 (wkK) rfl 4 (by decide) (hts _ (List.mem_cons_of_mem _ (wk_in_10 _ (List.mem_of_getElem? (i := 37) rfl)))) (fun _ h9 => h9) rfl dX11_would_15 ?_
    refine lv_aload_n hx hb dX11_would_18 rfl (lv_at hl 0 rfl) ?_
    refine va_get (D := (dC, dI)) (ci := 11) (v := .ref (q (51 + 31 * (A 0 9).toNat))) (C := RX11) (T := TX11) (N := 11) hx hb hts hiX11 hown hK hP 0 (wkK) rfl 9 (by decide) (hts _ (List.mem_cons_of_mem _ (wk_in_10 _ (List.mem_of_getElem? (i := 36) rfl)))) (fun _ h9 => h9) rfl dX11_would_19 ?_
    refine tp_v (y := .ref (q t2)) (by rw [et2]) ?_
    refine lv_iload_n hx hb dX11_would_22 rfl (lv_at hl 1 rfl) ?_
    refine k_callv (As := [.ref (q t2), .int (iI x1)]) (rest := []) ⟨hx, hb, hml, hown, hts⟩ hE (kc_X1_survey l dC dI cB cI cJ cZ cQ aL aS q _ t2 x1 hI ht2 hx1) (cwV 2 hts (goodVk (wk_in_12 _ (List.mem_of_getElem? (i := 36) rfl)) (wk_in_12 _ (List.mem_of_getElem? (i := 37) rfl)) (wk_in_12 _ (List.mem_of_getElem? (i := 38) rfl)) (wk_in_3 _ (List.mem_of_getElem? (i := 13) rfl)) (wk_in_3 _ (List.mem_of_getElem? (i := 5) rfl))) rfl rfl rfl (by decide +kernel) ⟨Nat.le_of_ble_eq_true rfl, Nat.le_of_ble_eq_true rfl⟩) hK hDD hA0 hP hS 22 1 (wkFD) rfl rfl hl.1 (Nat.le_of_ble_eq_true rfl) dX11_would_23 (fun A7 H locs hw8 hP hS => ?_)
    have ghw8 : q_X1_survey t2 x1 A A7 := hw8
    obtain ⟨_, hI, hf9, hw8⟩ := hw8
    clear hw8
    refine lv_aload_n hx hb dX11_would_26 rfl (lv_at hl 0 rfl) ?_
    refine va_get (D := (dC, dI)) (ci := 11) (v := .ref (q 22)) (C := RX11) (T := TX11) (N := 11) hx hb hts hiX11 hown hK hP 0 (wkK) rfl 4 (by decide) (hts _ (List.mem_cons_of_mem _ (wk_in_10 _ (List.mem_of_getElem? (i := 37) rfl)))) (fun _ h9 => h9) rfl dX11_would_27 ?_
    have r10 : (-2147483648 : Int) ≤ (A7 22 7) ∧ (A7 22 7) ≤ 2147483647 := irFD_7 hI
    refine va_get (D := (dC, dI)) (ci := 1) (v := .int (iI (A7 22 7))) (C := RX1) (T := TX1) (N := 8) hx hb hts hiX1 hown hK hP 22 (wkFD) rfl 7 (by decide) (hts _ (List.mem_cons_of_mem _ (wk_in_12 _ (List.mem_of_getElem? (i := 43) rfl)))) (fun _ h9 => h9) rfl dX11_would_30 ?_
    exact RET (A7 22 7) _ _ _ _ _ ⟨(u_r_X11_would ⟨t2, et2, ⟨z3, ghw5, (Or.inl ⟨c6, ⟨A7, ghw8, ⟨rfl, rfl⟩⟩⟩)⟩⟩), hI, fk.trans (fk.rf) hf9 rfl rfl, r10⟩ hP hS dX11_would_33
  · have c6 : z3 = 0 := (i_eq0 (rb rz3 (by decide) (by decide))).mp c6
    clear hw5
    refine lv_iconst (v := iI (-1)) hx hb dX11_would_12 (by decide +kernel) ?_
    exact RET (-1) _ _ _ _ _ ⟨(u_r_X11_would ⟨t2, et2, ⟨z3, ghw5, (Or.inr ⟨c6, ⟨rfl, rfl⟩⟩)⟩⟩), hI, fk.rf, ⟨by decide, by decide⟩⟩ hP hS dX11_would_13

abbrev tr_r_X11_unsay (A : St) (z : Int) (u : St) : Prop := (((¬ (A 22 4) = 0) ∧ (∃ A3 : St, A3 = stA A 22 4 ((A 22 4) - 1) ∧ (z = (A 22 4) - 1 ∧ u = A3))) ∨ (((A 22 4) = 0) ∧ (∃ z5 : Int, ∃ A6 : St, q_X11_refused 4 A z5 A6 ∧ (z = z5 ∧ u = A6))))
def r_X11_unsay (A : St) (z : Int) (u : St) : Prop := tr_r_X11_unsay A z u
theorem u_r_X11_unsay {A : St} {z : Int} {u : St} (h : tr_r_X11_unsay A z u) : r_X11_unsay A z u := h
def ws_kc_X11_unsay : List Cond := .code yX11_unsay cX11_unsay 1 (some .int) :: WY
set_option maxHeartbeats 4000000 in
set_option maxRecDepth 100000 in
theorem kc_X11_unsay (l : Launch) (dC : Nat → ClassId) (dI : Nat → Nat → Nat) (cB cI cJ cZ cQ : ClassId) (aL aS : Nat) (q : Nat → Nat) (A : St) (hI : IK A) : KMi l yX11_unsay ws_kc_X11_unsay ({ frames := 1, cells := 0, slots := 0, locals := 21 } : Room) aL aS (dC, dI) (tyA cB cI cJ cZ cQ) (WK cB cI cJ cZ cQ q) A [.ref (q 0)] (fun z u => r_X11_unsay A z u ∧ IK u ∧ fk [50] [(22, 4)] A u ∧ (-2147483648 ≤ z ∧ z ≤ 2147483647)) := by
  refine k_meti (cc := cX11_unsay) (maxL := 1) WK_adr (plainFor_of_name (by decide +kernel)) rfl (Nat.le_of_ble_eq_true rfl) (fun p e s m below meth c Q AS ls hx hb hml hown hts hK hDD hA0 hE RET H locs hP hS hl => ?_)
  have hown : s.vm.findClass RX11 = some m.cls := hown
  have hl : lv_has ls 1 [(0, .ref (q 0))] := hl
  have hiX11 : ∀ w ∈ u_ws RX11 TX11 11, w ∈ ws_kc_X11_unsay := fun w h => List.mem_cons_of_mem _ (wy_layX11 w h)
  have hiX1 : ∀ w ∈ u_ws RX1 TX1 8, w ∈ ws_kc_X11_unsay := fun w h => List.mem_cons_of_mem _ (wy_layX1 w h)
  refine lv_aload_n hx hb dX11_unsay_0 rfl (lv_at hl 0 rfl) ?_
  refine va_get (D := (dC, dI)) (ci := 11) (v := .ref (q 22)) (C := RX11) (T := TX11) (N := 11) hx hb hts hiX11 hown hK hP 0 (wkK) rfl 4 (by decide) (hts _ (List.mem_cons_of_mem _ (wk_in_10 _ (List.mem_of_getElem? (i := 37) rfl)))) (fun _ h9 => h9) rfl dX11_unsay_1 ?_
  have r1 : (0 : Int) ≤ (A 22 4) ∧ (A 22 4) ≤ 20 := irFD_4 hI
  refine va_get (D := (dC, dI)) (ci := 1) (v := .int (iI (A 22 4))) (C := RX1) (T := TX1) (N := 8) hx hb hts hiX1 hown hK hP 22 (wkFD) rfl 4 (by decide) (hts _ (List.mem_cons_of_mem _ (wk_in_10 _ (List.mem_of_getElem? (i := 38) rfl)))) (fun _ h9 => h9) rfl dX11_unsay_4 ?_
  refine lv_if_ne (tgt := 16) hx hb dX11_unsay_7 (by decide) (fun c2 => ?_) (fun c2 => ?_)
  · have c2 : ¬ (A 22 4) = 0 := mt (i_eq0 (rb r1 (by decide) (by decide))).mpr c2
    refine lv_aload_n hx hb dX11_unsay_16 rfl (lv_at hl 0 rfl) ?_
    refine va_get (D := (dC, dI)) (ci := 11) (v := .ref (q 22)) (C := RX11) (T := TX11) (N := 11) hx hb hts hiX11 hown hK hP 0 (wkK) rfl 4 (by decide) (hts _ (List.mem_cons_of_mem _ (wk_in_10 _ (List.mem_of_getElem? (i := 37) rfl)))) (fun _ h9 => h9) rfl dX11_unsay_17 ?_
    refine lv_dup hx hb dX11_unsay_20 rfl ?_
    refine va_get (D := (dC, dI)) (ci := 1) (v := .int (iI (A 22 4))) (C := RX1) (T := TX1) (N := 8) hx hb hts hiX1 hown hK hP 22 (wkFD) rfl 4 (by decide) (hts _ (List.mem_cons_of_mem _ (wk_in_10 _ (List.mem_of_getElem? (i := 38) rfl)))) (fun _ h9 => h9) rfl dX11_unsay_21 ?_
    refine lv_iconst (v := iI 1) hx hb dX11_unsay_24 (by decide +kernel) ?_
    refine x_subv (v := (A 22 4) - 1) hx hb dX11_unsay_25 (by omega) ?_
    refine k_put (Wf := WK cB cI cJ cZ cQ q) (D := (dC, dI)) (ci := 1) (v := .int (iI ((A 22 4) - 1))) (ty := .int) (C := RX1) (T := TX1) (N := 8) hx hb hts hiX1 tyX1 tyX1_ok nmX1 hown hK hP hDD hS 22 (wkFD) rfl 4 (by decide) (hts _ (List.mem_cons_of_mem _ (wk_in_10 _ (List.mem_of_getElem? (i := 38) rfl)))) (fun _ h9 => h9) rfl (by decide +kernel) rfl rfl (Nat.le_of_ble_eq_true rfl) dX11_unsay_26 (wfFD_4 (v := (A 22 4) - 1)) (fun H locs A3 hA3 hP hS => ?_)
    have hI := isFD_4 hA3 hI (show (0 : Int) ≤ (A 22 4) - 1 ∧ (A 22 4) - 1 ≤ 20 from (by omega))
    refine lv_aload_n hx hb dX11_unsay_29 rfl (lv_at hl 0 rfl) ?_
    refine va_get (D := (dC, dI)) (ci := 11) (v := .ref (q 22)) (C := RX11) (T := TX11) (N := 11) hx hb hts hiX11 hown hK hP 0 (wkK) rfl 4 (by decide) (hts _ (List.mem_cons_of_mem _ (wk_in_10 _ (List.mem_of_getElem? (i := 37) rfl)))) (fun _ h9 => h9) rfl dX11_unsay_30 ?_
    have e4 : A3 22 4 = (A 22 4) - 1 := rd_is hA3
    refine va_get (D := (dC, dI)) (ci := 1) (v := .int (iI (A3 22 4))) (C := RX1) (T := TX1) (N := 8) hx hb hts hiX1 hown hK hP 22 (wkFD) rfl 4 (by decide) (hts _ (List.mem_cons_of_mem _ (wk_in_10 _ (List.mem_of_getElem? (i := 38) rfl)))) (fun _ h9 => h9) rfl dX11_unsay_33 ?_
    refine tp_i (y := iI ((A 22 4) - 1)) (congrArg iI e4) ?_
    exact RET ((A 22 4) - 1) _ _ _ _ _ ⟨(u_r_X11_unsay (Or.inl ⟨c2, ⟨A3, hA3, ⟨rfl, rfl⟩⟩⟩)), hI, fk.df (fk.rf) hA3 rfl, (by omega)⟩ hP hS dX11_unsay_36
  · have c2 : (A 22 4) = 0 := (i_eq0 (rb r1 (by decide) (by decide))).mp c2
    refine lv_aload_n hx hb dX11_unsay_10 rfl (lv_at hl 0 rfl) ?_
    refine lv_iconst (v := iI 4) hx hb dX11_unsay_11 (by decide +kernel) ?_
    refine k_calli (As := [.int (iI 4)]) (rest := []) ⟨hx, hb, hml, hown, hts⟩ hE (kc_X11_refused l dC dI cB cI cJ cZ cQ aL aS q _ 4 hI ⟨by decide, by decide⟩) (cwV 1 hts (goodVk (wk_in_10 _ (List.mem_of_getElem? (i := 23) rfl)) (wk_in_10 _ (List.mem_of_getElem? (i := 24) rfl)) (wk_in_10 _ (List.mem_of_getElem? (i := 25) rfl)) (wk_in_10 _ (List.mem_of_getElem? (i := 26) rfl)) (wk_in_10 _ (List.mem_of_getElem? (i := 27) rfl))) rfl rfl rfl (by decide +kernel) ⟨Nat.le_of_ble_eq_true rfl, Nat.le_of_ble_eq_true rfl⟩) hK hDD hA0 hP hS 0 11 (wkK) rfl rfl hl.1 (Nat.le_of_ble_eq_true rfl) dX11_unsay_12 (fun z5 A6 H locs hw7 hP hS => ?_)
    have ghw7 : q_X11_refused 4 A z5 A6 := hw7
    obtain ⟨_, hI, hf8, hw7⟩ := hw7
    exact RET z5 _ _ _ _ _ ⟨(u_r_X11_unsay (Or.inr ⟨c2, ⟨z5, A6, ghw7, ⟨rfl, rfl⟩⟩⟩)), hI, fk.trans (fk.rf) hf8 rfl rfl, (by omega)⟩ hP hS dX11_unsay_15

abbrev tr_r_X11_round (x1 : Int) (x2 : Int) (A : St) (z : Int) (u : St) : Prop := (∃ t2 : Nat, t2 = 51 + 31 * ((A 0 9)).toNat ∧ (∃ z3 : Int, q_X9_isThere_1_3 t2 x1 A z3 ∧ (((¬ z3 = 0) ∧ (∃ z7 : Int, z7 = A ((t2 + 22) + 1) (x1).toNat ∧ (∃ z8 : Int, ∃ A9 : St, q_X10_minutesOf t2 z7 x2 A z8 A9 ∧ (z = z8 ∧ u = A9)))) ∨ ((z3 = 0) ∧ (z = (-1) ∧ u = A)))))
def r_X11_round (x1 : Int) (x2 : Int) (A : St) (z : Int) (u : St) : Prop := tr_r_X11_round x1 x2 A z u
theorem u_r_X11_round {x1 : Int} {x2 : Int} {A : St} {z : Int} {u : St} (h : tr_r_X11_round x1 x2 A z u) : r_X11_round x1 x2 A z u := h
def ws_kc_X11_round : List Cond := .code yX11_round cX11_round 3 (some .int) :: WY
set_option maxHeartbeats 4000000 in
set_option maxRecDepth 100000 in
theorem kc_X11_round (l : Launch) (dC : Nat → ClassId) (dI : Nat → Nat → Nat) (cB cI cJ cZ cQ : ClassId) (aL aS : Nat) (q : Nat → Nat) (A : St) (x1 x2 : Int) (hI : IK A) (hx1 : (-2147483648 : Int) ≤ x1 ∧ x1 ≤ 2147483647) (hx2 : (-2147483648 : Int) ≤ x2 ∧ x2 ≤ 2147483647) : KMi l yX11_round ws_kc_X11_round ({ frames := 5, cells := 0, slots := 0, locals := 120 } : Room) aL aS (dC, dI) (tyA cB cI cJ cZ cQ) (WK cB cI cJ cZ cQ q) A [.ref (q 0), .int (iI x1), .int (iI x2)] (fun z u => r_X11_round x1 x2 A z u ∧ IK u ∧ fk [28, 29] [] A u ∧ (-2147483648 ≤ z ∧ z ≤ 2147483647)) := by
  refine k_meti (cc := cX11_round) (maxL := 3) WK_adr (plainFor_of_name (by decide +kernel)) rfl (Nat.le_of_ble_eq_true rfl) (fun p e s m below meth c Q AS ls hx hb hml hown hts hK hDD hA0 hE RET H locs hP hS hl => ?_)
  have hown : s.vm.findClass RX11 = some m.cls := hown
  have hl : lv_has ls 3 [(0, .ref (q 0)), (1, .int (iI x1)), (2, .int (iI x2))] := hl
  have hiX11 : ∀ w ∈ u_ws RX11 TX11 11, w ∈ ws_kc_X11_round := fun w h => List.mem_cons_of_mem _ (wy_layX11 w h)
  have hiX9 : ∀ w ∈ u_ws RX9 TX9 16, w ∈ ws_kc_X11_round := fun w h => List.mem_cons_of_mem _ (wy_layX9 w h)
  have hiX6 : ∀ w ∈ u_ws RX6 TX6 4, w ∈ ws_kc_X11_round := fun w h => List.mem_cons_of_mem _ (wy_layX6 w h)
  refine lv_aload_n hx hb dX11_round_0 rfl (lv_at hl 0 rfl) ?_
  have r1 : (0 : Int) ≤ (A 0 9) ∧ (A 0 9) ≤ 1 := irK_9 hI
  obtain ⟨t2, et2⟩ : ∃ t : Nat, t = 51 + 31 * ((A 0 9)).toNat := ⟨_, rfl⟩
  have ht2 : isT t2 := by rw [et2]; exact isT.b r1
  refine va_get (D := (dC, dI)) (ci := 11) (v := .ref (q (51 + 31 * (A 0 9).toNat))) (C := RX11) (T := TX11) (N := 11) hx hb hts hiX11 hown hK hP 0 (wkK) rfl 9 (by decide) (hts _ (List.mem_cons_of_mem _ (wk_in_10 _ (List.mem_of_getElem? (i := 36) rfl)))) (fun _ h9 => h9) rfl dX11_round_1 ?_
  refine tp_v (y := .ref (q t2)) (by rw [et2]) ?_
  refine lv_iconst (v := iI 3) hx hb dX11_round_4 (by decide +kernel) ?_
  refine lv_iload_n hx hb dX11_round_5 rfl (lv_at hl 1 rfl) ?_
  refine k_calli (As := [.int (iI 3), .int (iI x1)]) (rest := []) ⟨hx, hb, hml, hown, hts⟩ hE (kc_X9_isThere_1_3 l dC dI cB cI cJ cZ cQ aL aS q _ t2 x1 hI ht2 hx1) (cwV 2 hts (goodVk (wk_in_10 _ (List.mem_of_getElem? (i := 54) rfl)) (wk_in_0 _ (List.mem_of_getElem? (i := 22) rfl)) (wk_in_0 _ (List.mem_of_getElem? (i := 23) rfl)) (wk_in_0 _ (List.mem_of_getElem? (i := 6) rfl)) (wk_in_0 _ (List.mem_of_getElem? (i := 24) rfl))) rfl rfl rfl (by decide +kernel) ⟨Nat.le_of_ble_eq_true rfl, Nat.le_of_ble_eq_true rfl⟩) hK hDD hA0 hP hS t2 9 (wkT ht2) rfl rfl hl.1 (Nat.le_of_ble_eq_true rfl) dX11_round_6 (fun z3 A4 H locs hw5 hP hS => ?_)
  obtain ⟨rfl, hw5⟩ := hw5
  have ghw5 : q_X9_isThere_1_3 t2 x1 A z3 := hw5
  have hw5 := hw5.2
  have rz3 : 0 ≤ z3 ∧ z3 ≤ 1 := hw5.1
  have hw5 := hw5.2
  refine lv_if_ne (tgt := 14) hx hb dX11_round_9 (by decide) (fun c6 => ?_) (fun c6 => ?_)
  · have c6 : ¬ z3 = 0 := mt (i_eq0 (rb rz3 (by decide) (by decide))).mpr c6
    have hw5b := hw5 (by omega)
    clear hw5
    refine lv_aload_n hx hb dX11_round_14 rfl (lv_at hl 0 rfl) ?_
    refine va_get (D := (dC, dI)) (ci := 11) (v := .ref (q 27)) (C := RX11) (T := TX11) (N := 11) hx hb hts hiX11 hown hK hP 0 (wkK) rfl 5 (by decide) (hts _ (List.mem_cons_of_mem _ (wk_in_12 _ (List.mem_of_getElem? (i := 46) rfl)))) (fun _ h9 => h9) rfl dX11_round_15 ?_
    refine lv_aload_n hx hb dX11_round_18 rfl (lv_at hl 0 rfl) ?_
    refine va_get (D := (dC, dI)) (ci := 11) (v := .ref (q (51 + 31 * (A 0 9).toNat))) (C := RX11) (T := TX11) (N := 11) hx hb hts hiX11 hown hK hP 0 (wkK) rfl 9 (by decide) (hts _ (List.mem_cons_of_mem _ (wk_in_10 _ (List.mem_of_getElem? (i := 36) rfl)))) (fun _ h9 => h9) rfl dX11_round_19 ?_
    refine tp_v (y := .ref (q t2)) (by rw [et2]) ?_
    refine lv_aload_n hx hb dX11_round_22 rfl (lv_at hl 0 rfl) ?_
    refine va_get (D := (dC, dI)) (ci := 11) (v := .ref (q (51 + 31 * (A 0 9).toNat))) (C := RX11) (T := TX11) (N := 11) hx hb hts hiX11 hown hK hP 0 (wkK) rfl 9 (by decide) (hts _ (List.mem_cons_of_mem _ (wk_in_10 _ (List.mem_of_getElem? (i := 36) rfl)))) (fun _ h9 => h9) rfl dX11_round_23 ?_
    refine tp_v (y := .ref (q t2)) (by rw [et2]) ?_
    refine va_get (D := (dC, dI)) (ci := 9) (v := .ref (q (t2 + 22))) (C := RX9) (T := TX9) (N := 16) hx hb hts hiX9 hown hK hP t2 (wkT ht2) rfl 14 (by decide) (hts _ (List.mem_cons_of_mem _ (wk_in_11 _ (List.mem_of_getElem? (i := 5) rfl)))) (fun _ h9 => h9) rfl dX11_round_26 ?_
    refine va_get (D := (dC, dI)) (ci := 6) (v := .ref (q ((t2 + 22) + 1))) (C := RX6) (T := TX6) (N := 4) hx hb hts hiX6 hown hK hP (t2 + 22) (wkS ht2.s) rfl 0 (by decide) (hts _ (List.mem_cons_of_mem _ (wk_in_11 _ (List.mem_of_getElem? (i := 12) rfl)))) (fun _ h9 => h9) rfl dX11_round_29 ?_
    refine lv_iload_n hx hb dX11_round_32 rfl (lv_at hl 1 rfl) ?_
    refine x_iald (Wf := WK cB cI cJ cZ cQ q) hx hb hK hP ((t2 + 22) + 1) 1 (wkSs ht2.s) rfl (by omega) (by decide) dX11_round_33 (fun z7 hz7 => ?_)
    have rz7 : (-2147483648 : Int) ≤ z7 ∧ z7 ≤ 2147483647 := by rw [hz7]; exact irSs ht2.s hI
    have gz7 := Hd.mk hz7
    refine lv_iload_n hx hb dX11_round_34 rfl (lv_at hl 2 rfl) ?_
    refine k_calli (As := [.ref (q t2), .int (iI z7), .int (iI x2)]) (rest := []) ⟨hx, hb, hml, hown, hts⟩ hE (kc_X10_minutesOf l dC dI cB cI cJ cZ cQ aL aS q _ t2 z7 x2 hI ht2 rz7 hx2) (cwV 3 hts (goodVk (wk_in_12 _ (List.mem_of_getElem? (i := 47) rfl)) (wk_in_12 _ (List.mem_of_getElem? (i := 48) rfl)) (wk_in_12 _ (List.mem_of_getElem? (i := 49) rfl)) (wk_in_9 _ (List.mem_of_getElem? (i := 51) rfl)) (wk_in_9 _ (List.mem_of_getElem? (i := 44) rfl))) rfl rfl rfl (by decide +kernel) ⟨Nat.le_of_ble_eq_true rfl, Nat.le_of_ble_eq_true rfl⟩) hK hDD hA0 hP hS 27 10 (wkWT) rfl rfl hl.1 (Nat.le_of_ble_eq_true rfl) dX11_round_35 (fun z8 A9 H locs hw10 hP hS => ?_)
    have ghw10 : q_X10_minutesOf t2 z7 x2 A z8 A9 := hw10
    obtain ⟨_, hI, hf11, hw10⟩ := hw10
    exact RET z8 _ _ _ _ _ ⟨(u_r_X11_round ⟨t2, et2, ⟨z3, ghw5, (Or.inl ⟨c6, ⟨z7, gz7.out, ⟨z8, A9, ghw10, ⟨rfl, rfl⟩⟩⟩⟩)⟩⟩), hI, fk.trans (fk.rf) hf11 rfl rfl, hw10⟩ hP hS dX11_round_38
  · have c6 : z3 = 0 := (i_eq0 (rb rz3 (by decide) (by decide))).mp c6
    clear hw5
    refine lv_iconst (v := iI (-1)) hx hb dX11_round_12 (by decide +kernel) ?_
    exact RET (-1) _ _ _ _ _ ⟨(u_r_X11_round ⟨t2, et2, ⟨z3, ghw5, (Or.inr ⟨c6, ⟨rfl, rfl⟩⟩)⟩⟩), hI, fk.rf, ⟨by decide, by decide⟩⟩ hP hS dX11_round_13

abbrev tr_r_X11_image (A : St) (z : Int) (u : St) : Prop := (∃ t2 : Nat, t2 = 51 + 31 * ((A 0 9)).toNat ∧ (∃ z3 : Int, ∃ A4 : St, q_X4_write t2 A z3 A4 ∧ (z = z3 ∧ u = A4)))
def r_X11_image (A : St) (z : Int) (u : St) : Prop := tr_r_X11_image A z u
theorem u_r_X11_image {A : St} {z : Int} {u : St} (h : tr_r_X11_image A z u) : r_X11_image A z u := h
def ws_kc_X11_image : List Cond := .code yX11_image cX11_image 1 (some .int) :: WY
set_option maxHeartbeats 4000000 in
set_option maxRecDepth 100000 in
theorem kc_X11_image (l : Launch) (dC : Nat → ClassId) (dI : Nat → Nat → Nat) (cB cI cJ cZ cQ : ClassId) (aL aS : Nat) (q : Nat → Nat) (A : St) (hI : IK A) : KMi l yX11_image ws_kc_X11_image ({ frames := 2, cells := 0, slots := 0, locals := 45 } : Room) aL aS (dC, dI) (tyA cB cI cJ cZ cQ) (WK cB cI cJ cZ cQ q) A [.ref (q 0)] (fun z u => r_X11_image A z u ∧ IK u ∧ fk [31] [(30, 2)] A u ∧ (-2147483648 ≤ z ∧ z ≤ 2147483647)) := by
  refine k_meti (cc := cX11_image) (maxL := 1) WK_adr (plainFor_of_name (by decide +kernel)) rfl (Nat.le_of_ble_eq_true rfl) (fun p e s m below meth c Q AS ls hx hb hml hown hts hK hDD hA0 hE RET H locs hP hS hl => ?_)
  have hown : s.vm.findClass RX11 = some m.cls := hown
  have hl : lv_has ls 1 [(0, .ref (q 0))] := hl
  have hiX11 : ∀ w ∈ u_ws RX11 TX11 11, w ∈ ws_kc_X11_image := fun w h => List.mem_cons_of_mem _ (wy_layX11 w h)
  refine lv_aload_n hx hb dX11_image_0 rfl (lv_at hl 0 rfl) ?_
  refine va_get (D := (dC, dI)) (ci := 11) (v := .ref (q 30)) (C := RX11) (T := TX11) (N := 11) hx hb hts hiX11 hown hK hP 0 (wkK) rfl 6 (by decide) (hts _ (List.mem_cons_of_mem _ (wk_in_12 _ (List.mem_of_getElem? (i := 51) rfl)))) (fun _ h9 => h9) rfl dX11_image_1 ?_
  refine lv_aload_n hx hb dX11_image_4 rfl (lv_at hl 0 rfl) ?_
  have r1 : (0 : Int) ≤ (A 0 9) ∧ (A 0 9) ≤ 1 := irK_9 hI
  obtain ⟨t2, et2⟩ : ∃ t : Nat, t = 51 + 31 * ((A 0 9)).toNat := ⟨_, rfl⟩
  have ht2 : isT t2 := by rw [et2]; exact isT.b r1
  refine va_get (D := (dC, dI)) (ci := 11) (v := .ref (q (51 + 31 * (A 0 9).toNat))) (C := RX11) (T := TX11) (N := 11) hx hb hts hiX11 hown hK hP 0 (wkK) rfl 9 (by decide) (hts _ (List.mem_cons_of_mem _ (wk_in_10 _ (List.mem_of_getElem? (i := 36) rfl)))) (fun _ h9 => h9) rfl dX11_image_5 ?_
  refine tp_v (y := .ref (q t2)) (by rw [et2]) ?_
  refine k_calli (As := [.ref (q t2)]) (rest := []) ⟨hx, hb, hml, hown, hts⟩ hE (kc_X4_write l dC dI cB cI cJ cZ cQ aL aS q _ t2 hI ht2) (cwV 1 hts (goodVk (wk_in_12 _ (List.mem_of_getElem? (i := 52) rfl)) (wk_in_12 _ (List.mem_of_getElem? (i := 53) rfl)) (wk_in_12 _ (List.mem_of_getElem? (i := 54) rfl)) (wk_in_4 _ (List.mem_of_getElem? (i := 23) rfl)) (wk_in_4 _ (List.mem_of_getElem? (i := 12) rfl))) rfl rfl rfl (by decide +kernel) ⟨Nat.le_of_ble_eq_true rfl, Nat.le_of_ble_eq_true rfl⟩) hK hDD hA0 hP hS 30 4 (wkPC) rfl rfl hl.1 (Nat.le_of_ble_eq_true rfl) dX11_image_8 (fun z3 A4 H locs hw5 hP hS => ?_)
  have ghw5 : q_X4_write t2 A z3 A4 := hw5
  obtain ⟨_, hI, hf6, hw5⟩ := hw5
  exact RET z3 _ _ _ _ _ ⟨(u_r_X11_image ⟨t2, et2, ⟨z3, A4, ghw5, ⟨rfl, rfl⟩⟩⟩), hI, fk.trans (fk.rf) hf6 rfl rfl, hw5⟩ hP hS dX11_image_11

abbrev tr_r_X11_octet (x1 : Int) (A : St) (z : Int) : Prop := (((x1 < 0) ∧ (z = (-1))) ∨ ((¬ x1 < 0) ∧ ((((A 30 2) ≤ x1) ∧ (z = (-1))) ∨ ((¬ (A 30 2) ≤ x1) ∧ (∃ z5 : Int, z5 = A 31 (x1).toNat ∧ (z = z5))))))
def r_X11_octet (x1 : Int) (A : St) (z : Int) : Prop := tr_r_X11_octet x1 A z
theorem u_r_X11_octet {x1 : Int} {A : St} {z : Int} (h : tr_r_X11_octet x1 A z) : r_X11_octet x1 A z := h
def ws_kc_X11_octet : List Cond := .code yX11_octet cX11_octet 2 (some .int) :: WY
set_option maxHeartbeats 4000000 in
set_option maxRecDepth 100000 in
theorem kc_X11_octet (l : Launch) (dC : Nat → ClassId) (dI : Nat → Nat → Nat) (cB cI cJ cZ cQ : ClassId) (aL aS : Nat) (q : Nat → Nat) (A : St) (x1 : Int) (hI : IK A) (hx1 : (-2147483648 : Int) ≤ x1 ∧ x1 ≤ 2147483647) : KMi l yX11_octet ws_kc_X11_octet ({ frames := 0, cells := 0, slots := 0, locals := 0 } : Room) aL aS (dC, dI) (tyA cB cI cJ cZ cQ) (WK cB cI cJ cZ cQ q) A [.ref (q 0), .int (iI x1)] (fun z u => A = u ∧ r_X11_octet x1 A z ∧ (-2147483648 ≤ z ∧ z ≤ 2147483647)) := by
  refine k_meti (cc := cX11_octet) (maxL := 2) WK_adr (plainFor_of_name (by decide +kernel)) rfl (Nat.le_of_ble_eq_true rfl) (fun p e s m below meth c Q AS ls hx hb hml hown hts hK hDD hA0 hE RET H locs hP hS hl => ?_)
  have hown : s.vm.findClass RX11 = some m.cls := hown
  have hl : lv_has ls 2 [(0, .ref (q 0)), (1, .int (iI x1))] := hl
  have hiX11 : ∀ w ∈ u_ws RX11 TX11 11, w ∈ ws_kc_X11_octet := fun w h => List.mem_cons_of_mem _ (wy_layX11 w h)
  have hiX4 : ∀ w ∈ u_ws RX4 TX4 3, w ∈ ws_kc_X11_octet := fun w h => List.mem_cons_of_mem _ (wy_layX4 w h)
  refine lv_iload_n hx hb dX11_octet_0 rfl (lv_at hl 1 rfl) ?_
  refine lv_if_lt (tgt := 33) hx hb dX11_octet_1 (by decide) (fun c1 => ?_) (fun c1 => ?_)
  · have c1 : x1 < 0 := (i_lt0 hx1).mp c1
    refine lv_iconst (v := iI (-1)) hx hb dX11_octet_33 (by decide +kernel) ?_
    exact RET (-1) _ _ _ _ _ ⟨rfl, (u_r_X11_octet (Or.inl ⟨c1, rfl⟩)), ⟨by decide, by decide⟩⟩ hP hS dX11_octet_34
  · have c1 : ¬ x1 < 0 := mt (i_lt0 hx1).mpr c1
    refine lv_iload_n hx hb dX11_octet_4 rfl (lv_at hl 1 rfl) ?_
    refine lv_aload_n hx hb dX11_octet_5 rfl (lv_at hl 0 rfl) ?_
    refine va_get (D := (dC, dI)) (ci := 11) (v := .ref (q 30)) (C := RX11) (T := TX11) (N := 11) hx hb hts hiX11 hown hK hP 0 (wkK) rfl 6 (by decide) (hts _ (List.mem_cons_of_mem _ (wk_in_12 _ (List.mem_of_getElem? (i := 51) rfl)))) (fun _ h9 => h9) rfl dX11_octet_6 ?_
    have r2 : (0 : Int) ≤ (A 30 2) ∧ (A 30 2) ≤ 36 := irPC_2 hI
    refine va_get (D := (dC, dI)) (ci := 4) (v := .int (iI (A 30 2))) (C := RX4) (T := TX4) (N := 3) hx hb hts hiX4 hown hK hP 30 (wkPC) rfl 2 (by decide) (hts _ (List.mem_cons_of_mem _ (wk_in_12 _ (List.mem_of_getElem? (i := 56) rfl)))) (fun _ h9 => h9) rfl dX11_octet_9 ?_
    refine lv_icmp_ge (tgt := 33) hx hb dX11_octet_12 (by decide) (fun c3 => ?_) (fun c3 => ?_)
    · have c3 : (A 30 2) ≤ x1 := (i_le (rb r2 (by decide) (by decide)) hx1).mp c3
      refine lv_iconst (v := iI (-1)) hx hb dX11_octet_33 (by decide +kernel) ?_
      exact RET (-1) _ _ _ _ _ ⟨rfl, (u_r_X11_octet (Or.inr ⟨c1, (Or.inl ⟨c3, rfl⟩)⟩)), ⟨by decide, by decide⟩⟩ hP hS dX11_octet_34
    · have c3 : ¬ (A 30 2) ≤ x1 := mt (i_le (rb r2 (by decide) (by decide)) hx1).mpr c3
      refine lv_iload_n hx hb dX11_octet_15 rfl (lv_at hl 1 rfl) ?_
      refine lv_bipush (v := iI 36) hx hb dX11_octet_16 (by decide +kernel) ?_
      refine lv_icmp_ge (tgt := 33) hx hb dX11_octet_18 (by decide) (fun c4 => False.elim (by have c4 : 36 ≤ x1 := (i_le ⟨by decide, by decide⟩ hx1).mp c4; omega)) (fun _ => ?_)
      refine lv_aload_n hx hb dX11_octet_21 rfl (lv_at hl 0 rfl) ?_
      refine va_get (D := (dC, dI)) (ci := 11) (v := .ref (q 30)) (C := RX11) (T := TX11) (N := 11) hx hb hts hiX11 hown hK hP 0 (wkK) rfl 6 (by decide) (hts _ (List.mem_cons_of_mem _ (wk_in_12 _ (List.mem_of_getElem? (i := 51) rfl)))) (fun _ h9 => h9) rfl dX11_octet_22 ?_
      refine va_get (D := (dC, dI)) (ci := 4) (v := .ref (q 31)) (C := RX4) (T := TX4) (N := 3) hx hb hts hiX4 hown hK hP 30 (wkPC) rfl 0 (by decide) (hts _ (List.mem_cons_of_mem _ (wk_in_12 _ (List.mem_of_getElem? (i := 57) rfl)))) (fun _ h9 => h9) rfl dX11_octet_25 ?_
      refine lv_iload_n hx hb dX11_octet_28 rfl (lv_at hl 1 rfl) ?_
      refine x_iald (Wf := WK cB cI cJ cZ cQ q) hx hb hK hP 31 1 (wkPCb) rfl (by omega) (by decide) dX11_octet_29 (fun z5 hz5 => ?_)
      have rz5 : (-2147483648 : Int) ≤ z5 ∧ z5 ≤ 2147483647 := by rw [hz5]; exact irPCb hI
      have gz5 := Hd.mk hz5
      refine lv_goto (tgt := 34) hx hb dX11_octet_30 (by decide) ?_
      exact RET z5 _ _ _ _ _ ⟨rfl, (u_r_X11_octet (Or.inr ⟨c1, (Or.inr ⟨c3, ⟨z5, gz5.out, rfl⟩⟩)⟩)), rz5⟩ hP hS dX11_octet_34

abbrev tr_r_X11_on (A : St) (z : Int) (u : St) : Prop := (∃ t2 : Nat, t2 = 51 + 31 * ((A 0 9)).toNat ∧ (∃ z3 : Int, ∃ A4 : St, q_X4_accept t2 A z3 A4 ∧ (∃ A7 : St, A7 = stA A4 1 1 0 ∧ (((¬ z3 = 0) ∧ (z = z3 ∧ u = A7)) ∨ ((z3 = 0) ∧ (∃ z10 : Int, ∃ A11 : St, q_X11_refused 5 A7 z10 A11 ∧ (z = z3 ∧ u = A11)))))))
def r_X11_on (A : St) (z : Int) (u : St) : Prop := tr_r_X11_on A z u
theorem u_r_X11_on {A : St} {z : Int} {u : St} (h : tr_r_X11_on A z u) : r_X11_on A z u := h
def ws_kc_X11_on : List Cond := .code yX11_on cX11_on 2 (some .boolean) :: WY
set_option maxHeartbeats 4000000 in
set_option maxRecDepth 100000 in
theorem kc_X11_on (l : Launch) (dC : Nat → ClassId) (dI : Nat → Nat → Nat) (cB cI cJ cZ cQ : ClassId) (aL aS : Nat) (q : Nat → Nat) (A : St) (hI : IK A) : KMi l yX11_on ws_kc_X11_on ({ frames := 5, cells := 0, slots := 0, locals := 121 } : Room) aL aS (dC, dI) (tyA cB cI cJ cZ cQ) (WK cB cI cJ cZ cQ q) A [.ref (q 0)] (fun z u => r_X11_on A z u ∧ IK u ∧ fk [33, 34, 35, 37, 38, 39, 40, 42, 43, 44, 46, 47, 48, 49, 50, 74, 75, 76, 78, 79, 80, 81, 105, 106, 107, 109, 110, 111, 112] [(1, 1)] A u ∧ ((0 ≤ z ∧ z ≤ 1) ∧ (u 1 1 = 0))) := by
  refine k_metz (cc := cX11_on) (maxL := 2) WK_adr (plainFor_of_name (by decide +kernel)) rfl (Nat.le_of_ble_eq_true rfl) (fun z u h => h.2.2.2.1) (fun p e s m below meth c Q AS ls hx hb hml hown hts hK hDD hA0 hE RET H locs hP hS hl => ?_)
  have hown : s.vm.findClass RX11 = some m.cls := hown
  have hl : lv_has ls 2 [(0, .ref (q 0))] := hl
  have hiX11 : ∀ w ∈ u_ws RX11 TX11 11, w ∈ ws_kc_X11_on := fun w h => List.mem_cons_of_mem _ (wy_layX11 w h)
  have hiX7 : ∀ w ∈ u_ws RX7 TX7 2, w ∈ ws_kc_X11_on := fun w h => List.mem_cons_of_mem _ (wy_layX7 w h)
  refine lv_aload_n hx hb dX11_on_0 rfl (lv_at hl 0 rfl) ?_
  refine va_get (D := (dC, dI)) (ci := 11) (v := .ref (q 30)) (C := RX11) (T := TX11) (N := 11) hx hb hts hiX11 hown hK hP 0 (wkK) rfl 6 (by decide) (hts _ (List.mem_cons_of_mem _ (wk_in_12 _ (List.mem_of_getElem? (i := 51) rfl)))) (fun _ h9 => h9) rfl dX11_on_1 ?_
  refine lv_aload_n hx hb dX11_on_4 rfl (lv_at hl 0 rfl) ?_
  have r1 : (0 : Int) ≤ (A 0 9) ∧ (A 0 9) ≤ 1 := irK_9 hI
  obtain ⟨t2, et2⟩ : ∃ t : Nat, t = 51 + 31 * ((A 0 9)).toNat := ⟨_, rfl⟩
  have ht2 : isT t2 := by rw [et2]; exact isT.b r1
  refine va_get (D := (dC, dI)) (ci := 11) (v := .ref (q (51 + 31 * (A 0 9).toNat))) (C := RX11) (T := TX11) (N := 11) hx hb hts hiX11 hown hK hP 0 (wkK) rfl 9 (by decide) (hts _ (List.mem_cons_of_mem _ (wk_in_10 _ (List.mem_of_getElem? (i := 36) rfl)))) (fun _ h9 => h9) rfl dX11_on_5 ?_
  refine tp_v (y := .ref (q t2)) (by rw [et2]) ?_
  refine lv_aload_n hx hb dX11_on_8 rfl (lv_at hl 0 rfl) ?_
  refine va_get (D := (dC, dI)) (ci := 11) (v := .ref (q 1)) (C := RX11) (T := TX11) (N := 11) hx hb hts hiX11 hown hK hP 0 (wkK) rfl 0 (by decide) (hts _ (List.mem_cons_of_mem _ (wk_in_10 _ (List.mem_of_getElem? (i := 18) rfl)))) (fun _ h9 => h9) rfl dX11_on_9 ?_
  refine k_calli (As := [.ref (q t2), .ref (q 1)]) (rest := []) ⟨hx, hb, hml, hown, hts⟩ hE (kc_X4_accept l dC dI cB cI cJ cZ cQ aL aS q _ t2 hI ht2) (cwV 2 hts (goodVk (wk_in_12 _ (List.mem_of_getElem? (i := 59) rfl)) (wk_in_13 _ (List.mem_of_getElem? (i := 0) rfl)) (wk_in_13 _ (List.mem_of_getElem? (i := 1) rfl)) (wk_in_4 _ (List.mem_of_getElem? (i := 23) rfl)) (wk_in_4 _ (List.mem_of_getElem? (i := 29) rfl))) rfl rfl rfl (by decide +kernel) ⟨Nat.le_of_ble_eq_true rfl, Nat.le_of_ble_eq_true rfl⟩) hK hDD hA0 hP hS 30 4 (wkPC) rfl rfl hl.1 (Nat.le_of_ble_eq_true rfl) dX11_on_12 (fun z3 A4 H locs hw5 hP hS => ?_)
  have ghw5 : q_X4_accept t2 A z3 A4 := hw5
  obtain ⟨_, hI, hf6, hw5⟩ := hw5
  refine lv_istore_n (lv' := [(1, .int (iI z3)), (0, .ref (q 0))]) hx hb dX11_on_15 rfl hl (by decide) rfl (fun ls hl => ?_)
  refine lv_aload_n hx hb dX11_on_16 rfl (lv_at hl 1 rfl) ?_
  refine va_get (D := (dC, dI)) (ci := 11) (v := .ref (q 1)) (C := RX11) (T := TX11) (N := 11) hx hb hts hiX11 hown hK hP 0 (wkK) rfl 0 (by decide) (hts _ (List.mem_cons_of_mem _ (wk_in_10 _ (List.mem_of_getElem? (i := 18) rfl)))) (fun _ h9 => h9) rfl dX11_on_17 ?_
  refine lv_iconst (v := iI 0) hx hb dX11_on_20 (by decide +kernel) ?_
  refine k_put (Wf := WK cB cI cJ cZ cQ q) (D := (dC, dI)) (ci := 7) (v := .int (iI 0)) (ty := .int) (C := RX7) (T := TX7) (N := 2) hx hb hts hiX7 tyX7 tyX7_ok nmX7 hown hK hP hDD hS 1 (wkTP) rfl 1 (by decide) (hts _ (List.mem_cons_of_mem _ (wk_in_10 _ (List.mem_of_getElem? (i := 19) rfl)))) (fun _ h9 => h9) rfl (by decide +kernel) rfl rfl (Nat.le_of_ble_eq_true rfl) dX11_on_21 (wfTP_1 (v := 0)) (fun H locs A7 hA7 hP hS => ?_)
  have hI := isTP_1 hA7 hI (show (0 : Int) ≤ 0 ∧ 0 ≤ 1600 from ⟨by decide, by decide⟩)
  refine lv_iload_n hx hb dX11_on_24 rfl (lv_at hl 0 rfl) ?_
  refine lv_if_ne (tgt := 34) hx hb dX11_on_25 (by decide) (fun c8 => ?_) (fun c8 => ?_)
  · have c8 : ¬ z3 = 0 := mt (i_eq0 (rb hw5 (by decide) (by decide))).mpr c8
    refine lv_iload_n hx hb dX11_on_34 rfl (lv_at hl 0 rfl) ?_
    have e9 : A7 1 1 = 0 := rd_is hA7
    exact RET z3 _ _ _ _ _ ⟨(u_r_X11_on ⟨t2, et2, ⟨z3, A4, ghw5, ⟨A7, hA7, (Or.inl ⟨c8, ⟨rfl, rfl⟩⟩)⟩⟩⟩), hI, fk.df (fk.trans (fk.rf) hf6 rfl rfl) hA7 rfl, by omega⟩ hP hS dX11_on_35
  · have c8 : z3 = 0 := (i_eq0 (rb hw5 (by decide) (by decide))).mp c8
    refine lv_aload_n hx hb dX11_on_28 rfl (lv_at hl 1 rfl) ?_
    refine lv_iconst (v := iI 5) hx hb dX11_on_29 (by decide +kernel) ?_
    refine k_calli (As := [.int (iI 5)]) (rest := []) ⟨hx, hb, hml, hown, hts⟩ hE (kc_X11_refused l dC dI cB cI cJ cZ cQ aL aS q _ 5 hI ⟨by decide, by decide⟩) (cwV 1 hts (goodVk (wk_in_10 _ (List.mem_of_getElem? (i := 23) rfl)) (wk_in_10 _ (List.mem_of_getElem? (i := 24) rfl)) (wk_in_10 _ (List.mem_of_getElem? (i := 25) rfl)) (wk_in_10 _ (List.mem_of_getElem? (i := 26) rfl)) (wk_in_10 _ (List.mem_of_getElem? (i := 27) rfl))) rfl rfl rfl (by decide +kernel) ⟨Nat.le_of_ble_eq_true rfl, Nat.le_of_ble_eq_true rfl⟩) hK hDD hA0 hP hS 0 11 (wkK) rfl rfl hl.1 (Nat.le_of_ble_eq_true rfl) dX11_on_30 (fun z10 A11 H locs hw12 hP hS => ?_)
    have ghw12 : q_X11_refused 5 A7 z10 A11 := hw12
    obtain ⟨_, hI, hf13, hw12⟩ := hw12
    refine lv_pop hx hb dX11_on_33 rfl ?_
    refine lv_iload_n hx hb dX11_on_34 rfl (lv_at hl 0 rfl) ?_
    have e15 : A7 1 1 = 0 := rd_is hA7
    have e14 : A11 1 1 = 0 := (hf13 1 1 rfl rfl).trans e15
    exact RET z3 _ _ _ _ _ ⟨(u_r_X11_on ⟨t2, et2, ⟨z3, A4, ghw5, ⟨A7, hA7, (Or.inr ⟨c8, ⟨z10, A11, ghw12, ⟨rfl, rfl⟩⟩⟩)⟩⟩⟩), hI, fk.trans (fk.df (fk.trans (fk.rf) hf6 rfl rfl) hA7 rfl) hf13 rfl rfl, by omega⟩ hP hS dX11_on_35

abbrev tr_r_X11_status (x1 : Int) (A : St) (z : Int) : Prop := (((x1 < 0) ∧ (z = (-1))) ∨ ((¬ x1 < 0) ∧ (((6 ≤ x1) ∧ (z = (-1))) ∨ ((¬ 6 ≤ x1) ∧ (∃ z3 : Int, z3 = A 50 (x1).toNat ∧ (z = z3))))))
def r_X11_status (x1 : Int) (A : St) (z : Int) : Prop := tr_r_X11_status x1 A z
theorem u_r_X11_status {x1 : Int} {A : St} {z : Int} (h : tr_r_X11_status x1 A z) : r_X11_status x1 A z := h
def ws_kc_X11_status : List Cond := .code yX11_status cX11_status 2 (some .int) :: WY
set_option maxHeartbeats 4000000 in
set_option maxRecDepth 100000 in
theorem kc_X11_status (l : Launch) (dC : Nat → ClassId) (dI : Nat → Nat → Nat) (cB cI cJ cZ cQ : ClassId) (aL aS : Nat) (q : Nat → Nat) (A : St) (x1 : Int) (hI : IK A) (hx1 : (-2147483648 : Int) ≤ x1 ∧ x1 ≤ 2147483647) : KMi l yX11_status ws_kc_X11_status ({ frames := 0, cells := 0, slots := 0, locals := 0 } : Room) aL aS (dC, dI) (tyA cB cI cJ cZ cQ) (WK cB cI cJ cZ cQ q) A [.ref (q 0), .int (iI x1)] (fun z u => A = u ∧ r_X11_status x1 A z ∧ (-2147483648 ≤ z ∧ z ≤ 2147483647)) := by
  refine k_meti (cc := cX11_status) (maxL := 2) WK_adr (plainFor_of_name (by decide +kernel)) rfl (Nat.le_of_ble_eq_true rfl) (fun p e s m below meth c Q AS ls hx hb hml hown hts hK hDD hA0 hE RET H locs hP hS hl => ?_)
  have hown : s.vm.findClass RX11 = some m.cls := hown
  have hl : lv_has ls 2 [(0, .ref (q 0)), (1, .int (iI x1))] := hl
  have hiX11 : ∀ w ∈ u_ws RX11 TX11 11, w ∈ ws_kc_X11_status := fun w h => List.mem_cons_of_mem _ (wy_layX11 w h)
  refine lv_iload_n hx hb dX11_status_0 rfl (lv_at hl 1 rfl) ?_
  refine lv_if_lt (tgt := 19) hx hb dX11_status_1 (by decide) (fun c1 => ?_) (fun c1 => ?_)
  · have c1 : x1 < 0 := (i_lt0 hx1).mp c1
    refine lv_iconst (v := iI (-1)) hx hb dX11_status_19 (by decide +kernel) ?_
    exact RET (-1) _ _ _ _ _ ⟨rfl, (u_r_X11_status (Or.inl ⟨c1, rfl⟩)), ⟨by decide, by decide⟩⟩ hP hS dX11_status_20
  · have c1 : ¬ x1 < 0 := mt (i_lt0 hx1).mpr c1
    refine lv_iload_n hx hb dX11_status_4 rfl (lv_at hl 1 rfl) ?_
    refine lv_bipush (v := iI 6) hx hb dX11_status_5 (by decide +kernel) ?_
    refine lv_icmp_ge (tgt := 19) hx hb dX11_status_7 (by decide) (fun c2 => ?_) (fun c2 => ?_)
    · have c2 : 6 ≤ x1 := (i_le ⟨by decide, by decide⟩ hx1).mp c2
      refine lv_iconst (v := iI (-1)) hx hb dX11_status_19 (by decide +kernel) ?_
      exact RET (-1) _ _ _ _ _ ⟨rfl, (u_r_X11_status (Or.inr ⟨c1, (Or.inl ⟨c2, rfl⟩)⟩)), ⟨by decide, by decide⟩⟩ hP hS dX11_status_20
    · have c2 : ¬ 6 ≤ x1 := mt (i_le ⟨by decide, by decide⟩ hx1).mpr c2
      refine lv_aload_n hx hb dX11_status_10 rfl (lv_at hl 0 rfl) ?_
      refine va_get (D := (dC, dI)) (ci := 11) (v := .ref (q 50)) (C := RX11) (T := TX11) (N := 11) hx hb hts hiX11 hown hK hP 0 (wkK) rfl 8 (by decide) (hts _ (List.mem_cons_of_mem _ (wk_in_10 _ (List.mem_of_getElem? (i := 28) rfl)))) (fun _ h9 => h9) rfl dX11_status_11 ?_
      refine lv_iload_n hx hb dX11_status_14 rfl (lv_at hl 1 rfl) ?_
      refine x_iald (Wf := WK cB cI cJ cZ cQ q) hx hb hK hP 50 1 (wkKr) rfl (by omega) (by decide) dX11_status_15 (fun z3 hz3 => ?_)
      have rz3 : (-2147483648 : Int) ≤ z3 ∧ z3 ≤ 2147483647 := by rw [hz3]; exact irKr hI
      have gz3 := Hd.mk hz3
      refine lv_goto (tgt := 20) hx hb dX11_status_16 (by decide) ?_
      exact RET z3 _ _ _ _ _ ⟨rfl, (u_r_X11_status (Or.inr ⟨c1, (Or.inr ⟨c2, ⟨z3, gz3.out, rfl⟩⟩)⟩)), rz3⟩ hP hS dX11_status_20
