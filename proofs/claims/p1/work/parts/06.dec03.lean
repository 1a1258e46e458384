theorem dX11_fits_9 : decode cX11_fits 9 = .ok (.invokevirtual 249, 3) := by decide +kernel
theorem dX11_fits_12 : decode cX11_fits 12 = .ok (.iload_n 1, 1) := by decide +kernel
theorem dX11_fits_13 : decode cX11_fits 13 = .ok (.iconst (-1), 1) := by decide +kernel
theorem dX11_fits_14 : decode cX11_fits 14 = .ok (.if_icmp .ne 11, 3) := by decide +kernel
theorem dX11_fits_17 : decode cX11_fits 17 = .ok (.aload_n 0, 1) := by decide +kernel
theorem dX11_fits_18 : decode cX11_fits 18 = .ok (.getfield 42, 3) := by decide +kernel
theorem dX11_fits_21 : decode cX11_fits 21 = .ok (.getfield 253, 3) := by decide +kernel
theorem dX11_fits_24 : decode cX11_fits 24 = .ok (.ireturn, 1) := by decide +kernel
theorem dX11_fits_25 : decode cX11_fits 25 = .ok (.iload_n 1, 1) := by decide +kernel
theorem dX11_fits_26 : decode cX11_fits 26 = .ok (.ifCond .lt 31, 3) := by decide +kernel
theorem dX11_fits_29 : decode cX11_fits 29 = .ok (.iload_n 1, 1) := by decide +kernel
theorem dX11_fits_30 : decode cX11_fits 30 = .ok (.aload_n 0, 1) := by decide +kernel
theorem dX11_fits_31 : decode cX11_fits 31 = .ok (.getfield 42, 3) := by decide +kernel
theorem dX11_fits_34 : decode cX11_fits 34 = .ok (.getfield 256, 3) := by decide +kernel
theorem dX11_fits_37 : decode cX11_fits 37 = .ok (.if_icmp .ge 20, 3) := by decide +kernel
theorem dX11_fits_57 : decode cX11_fits 57 = .ok (.iconst (-1), 1) := by decide +kernel
theorem dX11_fits_58 : decode cX11_fits 58 = .ok (.ireturn, 1) := by decide +kernel
theorem dX11_would_0 : decode cX11_would 0 = .ok (.aload_n 0, 1) := by decide +kernel
theorem dX11_would_1 : decode cX11_would 1 = .ok (.getfield 74, 3) := by decide +kernel
theorem dX11_would_4 : decode cX11_would 4 = .ok (.iconst 1, 1) := by decide +kernel
theorem dX11_would_5 : decode cX11_would 5 = .ok (.iload_n 1, 1) := by decide +kernel
theorem dX11_would_6 : decode cX11_would 6 = .ok (.invokevirtual 125, 3) := by decide +kernel
theorem dX11_would_9 : decode cX11_would 9 = .ok (.ifCond .ne 5, 3) := by decide +kernel
theorem dX11_would_12 : decode cX11_would 12 = .ok (.iconst (-1), 1) := by decide +kernel
theorem dX11_would_13 : decode cX11_would 13 = .ok (.ireturn, 1) := by decide +kernel
theorem dX11_unsay_0 : decode cX11_unsay 0 = .ok (.aload_n 0, 1) := by decide +kernel
theorem dX11_unsay_1 : decode cX11_unsay 1 = .ok (.getfield 42, 3) := by decide +kernel
theorem dX11_unsay_4 : decode cX11_unsay 4 = .ok (.getfield 101, 3) := by decide +kernel
theorem dX11_unsay_7 : decode cX11_unsay 7 = .ok (.ifCond .ne 9, 3) := by decide +kernel
theorem dX11_unsay_10 : decode cX11_unsay 10 = .ok (.aload_n 0, 1) := by decide +kernel
theorem dX11_unsay_11 : decode cX11_unsay 11 = .ok (.iconst 4, 1) := by decide +kernel
theorem dX11_unsay_12 : decode cX11_unsay 12 = .ok (.invokevirtual 85, 3) := by decide +kernel
theorem dX11_unsay_15 : decode cX11_unsay 15 = .ok (.ireturn, 1) := by decide +kernel
theorem dX11_round_0 : decode cX11_round 0 = .ok (.aload_n 0, 1) := by decide +kernel
theorem dX11_round_1 : decode cX11_round 1 = .ok (.getfield 74, 3) := by decide +kernel
theorem dX11_round_4 : decode cX11_round 4 = .ok (.iconst 3, 1) := by decide +kernel
theorem dX11_round_5 : decode cX11_round 5 = .ok (.iload_n 1, 1) := by decide +kernel
theorem dX11_round_6 : decode cX11_round 6 = .ok (.invokevirtual 125, 3) := by decide +kernel
theorem dX11_round_9 : decode cX11_round 9 = .ok (.ifCond .ne 5, 3) := by decide +kernel
theorem dX11_round_12 : decode cX11_round 12 = .ok (.iconst (-1), 1) := by decide +kernel
theorem dX11_round_13 : decode cX11_round 13 = .ok (.ireturn, 1) := by decide +kernel
theorem dX11_image_0 : decode cX11_image 0 = .ok (.aload_n 0, 1) := by decide +kernel
theorem dX11_image_1 : decode cX11_image 1 = .ok (.getfield 56, 3) := by decide +kernel
theorem dX11_image_4 : decode cX11_image 4 = .ok (.aload_n 0, 1) := by decide +kernel
theorem dX11_image_5 : decode cX11_image 5 = .ok (.getfield 74, 3) := by decide +kernel
theorem dX11_image_8 : decode cX11_image 8 = .ok (.invokevirtual 266, 3) := by decide +kernel
theorem dX11_image_11 : decode cX11_image 11 = .ok (.ireturn, 1) := by decide +kernel
theorem dX11_octet_0 : decode cX11_octet 0 = .ok (.iload_n 1, 1) := by decide +kernel
theorem dX11_octet_1 : decode cX11_octet 1 = .ok (.ifCond .lt 32, 3) := by decide +kernel
theorem dX11_octet_4 : decode cX11_octet 4 = .ok (.iload_n 1, 1) := by decide +kernel
theorem dX11_octet_5 : decode cX11_octet 5 = .ok (.aload_n 0, 1) := by decide +kernel
theorem dX11_octet_6 : decode cX11_octet 6 = .ok (.getfield 56, 3) := by decide +kernel
theorem dX11_octet_9 : decode cX11_octet 9 = .ok (.getfield 269, 3) := by decide +kernel
theorem dX11_octet_12 : decode cX11_octet 12 = .ok (.if_icmp .ge 21, 3) := by decide +kernel
theorem dX11_octet_33 : decode cX11_octet 33 = .ok (.iconst (-1), 1) := by decide +kernel
theorem dX11_octet_34 : decode cX11_octet 34 = .ok (.ireturn, 1) := by decide +kernel
theorem dX11_on_0 : decode cX11_on 0 = .ok (.aload_n 0, 1) := by decide +kernel
theorem dX11_on_1 : decode cX11_on 1 = .ok (.getfield 56, 3) := by decide +kernel
theorem dX11_on_4 : decode cX11_on 4 = .ok (.aload_n 0, 1) := by decide +kernel
theorem dX11_on_5 : decode cX11_on 5 = .ok (.getfield 74, 3) := by decide +kernel
theorem dX11_on_8 : decode cX11_on 8 = .ok (.aload_n 0, 1) := by decide +kernel
theorem dX11_on_9 : decode cX11_on 9 = .ok (.getfield 10, 3) := by decide +kernel
theorem dX11_on_12 : decode cX11_on 12 = .ok (.invokevirtual 273, 3) := by decide +kernel
theorem dX11_on_15 : decode cX11_on 15 = .ok (.istore_n 1, 1) := by decide +kernel
theorem dX11_on_16 : decode cX11_on 16 = .ok (.aload_n 0, 1) := by decide +kernel
theorem dX11_on_17 : decode cX11_on 17 = .ok (.getfield 10, 3) := by decide +kernel
theorem dX11_on_20 : decode cX11_on 20 = .ok (.iconst 0, 1) := by decide +kernel
theorem dX11_on_21 : decode cX11_on 21 = .ok (.putfield 93, 3) := by decide +kernel
theorem dX11_on_24 : decode cX11_on 24 = .ok (.iload_n 1, 1) := by decide +kernel
theorem dX11_on_25 : decode cX11_on 25 = .ok (.ifCond .ne 9, 3) := by decide +kernel
theorem dX11_on_28 : decode cX11_on 28 = .ok (.aload_n 0, 1) := by decide +kernel
theorem dX11_on_29 : decode cX11_on 29 = .ok (.iconst 5, 1) := by decide +kernel
theorem dX11_on_30 : decode cX11_on 30 = .ok (.invokevirtual 85, 3) := by decide +kernel
theorem dX11_on_33 : decode cX11_on 33 = .ok (.pop, 1) := by decide +kernel
theorem dX11_on_34 : decode cX11_on 34 = .ok (.iload_n 1, 1) := by decide +kernel
theorem dX11_on_35 : decode cX11_on 35 = .ok (.ireturn, 1) := by decide +kernel
theorem dX11_status_0 : decode cX11_status 0 = .ok (.iload_n 1, 1) := by decide +kernel
theorem dX11_status_1 : decode cX11_status 1 = .ok (.ifCond .lt 18, 3) := by decide +kernel
theorem dX11_status_4 : decode cX11_status 4 = .ok (.iload_n 1, 1) := by decide +kernel
theorem dX11_status_5 : decode cX11_status 5 = .ok (.bipush 6, 2) := by decide +kernel
theorem dX11_status_7 : decode cX11_status 7 = .ok (.if_icmp .ge 12, 3) := by decide +kernel
theorem dX11_status_10 : decode cX11_status 10 = .ok (.aload_n 0, 1) := by decide +kernel
theorem dX11_status_11 : decode cX11_status 11 = .ok (.getfield 67, 3) := by decide +kernel
theorem dX11_status_14 : decode cX11_status 14 = .ok (.iload_n 1, 1) := by decide +kernel
theorem dX11_status_15 : decode cX11_status 15 = .ok (.iaload, 1) := by decide +kernel
theorem dX11_status_16 : decode cX11_status 16 = .ok (.goto 4, 3) := by decide +kernel
theorem dX11_status_19 : decode cX11_status 19 = .ok (.iconst (-1), 1) := by decide +kernel
theorem dX11_status_20 : decode cX11_status 20 = .ok (.ireturn, 1) := by decide +kernel
theorem dX11_refused_0 : decode cX11_refused 0 = .ok (.iload_n 1, 1) := by decide +kernel
theorem dX11_refused_1 : decode cX11_refused 1 = .ok (.ifCond .lt 19, 3) := by decide +kernel
theorem dX11_refused_4 : decode cX11_refused 4 = .ok (.iload_n 1, 1) := by decide +kernel
theorem dX11_refused_5 : decode cX11_refused 5 = .ok (.bipush 6, 2) := by decide +kernel
theorem dX11_refused_7 : decode cX11_refused 7 = .ok (.if_icmp .ge 13, 3) := by decide +kernel
theorem dX11_refused_10 : decode cX11_refused 10 = .ok (.aload_n 0, 1) := by decide +kernel
theorem dX11_refused_11 : decode cX11_refused 11 = .ok (.getfield 67, 3) := by decide +kernel
theorem dX11_refused_14 : decode cX11_refused 14 = .ok (.iload_n 1, 1) := by decide +kernel
theorem dX11_refused_15 : decode cX11_refused 15 = .ok (.dup2, 1) := by decide +kernel
theorem dX11_refused_16 : decode cX11_refused 16 = .ok (.iaload, 1) := by decide +kernel
theorem dX11_refused_17 : decode cX11_refused 17 = .ok (.iconst 1, 1) := by decide +kernel
theorem dX11_refused_18 : decode cX11_refused 18 = .ok (.iadd, 1) := by decide +kernel
theorem dX11_refused_19 : decode cX11_refused 19 = .ok (.iastore, 1) := by decide +kernel
theorem dX11_refused_20 : decode cX11_refused 20 = .ok (.iconst (-1), 1) := by decide +kernel
theorem dX11_refused_21 : decode cX11_refused 21 = .ok (.ireturn, 1) := by decide +kernel
theorem dX11_actAnswer_0 : decode cX11_actAnswer 0 = .ok (.iload_n 1, 1) := by decide +kernel
theorem dX11_actAnswer_1 : decode cX11_actAnswer 1 = .ok (.iconst (-1), 1) := by decide +kernel
theorem dX11_actAnswer_2 : decode cX11_actAnswer 2 = .ok (.if_icmp .ne 11, 3) := by decide +kernel
theorem dX11_actAnswer_5 : decode cX11_actAnswer 5 = .ok (.aload_n 0, 1) := by decide +kernel
theorem dX11_actAnswer_6 : decode cX11_actAnswer 6 = .ok (.iconst 2, 1) := by decide +kernel
theorem dX11_actAnswer_7 : decode cX11_actAnswer 7 = .ok (.invokevirtual 85, 3) := by decide +kernel
theorem dX11_actAnswer_10 : decode cX11_actAnswer 10 = .ok (.goto 4, 3) := by decide +kernel
theorem dX11_actAnswer_14 : decode cX11_actAnswer 14 = .ok (.ireturn, 1) := by decide +kernel
theorem dX11_handingAnswer_0 : decode cX11_handingAnswer 0 = .ok (.iload_n 1, 1) := by decide +kernel
theorem dX11_handingAnswer_1 : decode cX11_handingAnswer 1 = .ok (.ifCond .ne 9, 3) := by decide +kernel
theorem dX11_handingAnswer_4 : decode cX11_handingAnswer 4 = .ok (.aload_n 0, 1) := by decide +kernel
theorem dX11_handingAnswer_5 : decode cX11_handingAnswer 5 = .ok (.iconst 3, 1) := by decide +kernel
theorem dX11_handingAnswer_6 : decode cX11_handingAnswer 6 = .ok (.invokevirtual 85, 3) := by decide +kernel
theorem dX11_handingAnswer_9 : decode cX11_handingAnswer 9 = .ok (.pop, 1) := by decide +kernel
theorem dX11_handingAnswer_10 : decode cX11_handingAnswer 10 = .ok (.iload_n 1, 1) := by decide +kernel
theorem dX11_handingAnswer_11 : decode cX11_handingAnswer 11 = .ok (.ireturn, 1) := by decide +kernel
theorem dX11_firstImpossible_0 : decode cX11_firstImpossible 0 = .ok (.iconst 0, 1) := by decide +kernel
theorem dX11_firstImpossible_1 : decode cX11_firstImpossible 1 = .ok (.istore_n 1, 1) := by decide +kernel
theorem dX11_firstImpossible_2 : decode cX11_firstImpossible 2 = .ok (.iconst 0, 1) := by decide +kernel
theorem dX11_firstImpossible_3 : decode cX11_firstImpossible 3 = .ok (.istore_n 2, 1) := by decide +kernel
theorem dX11_firstImpossible_4 : decode cX11_firstImpossible 4 = .ok (.iload_n 2, 1) := by decide +kernel
theorem dX11_firstImpossible_5 : decode cX11_firstImpossible 5 = .ok (.aload_n 0, 1) := by decide +kernel
theorem dX11_firstImpossible_6 : decode cX11_firstImpossible 6 = .ok (.getfield 10, 3) := by decide +kernel
theorem dX11_firstImpossible_9 : decode cX11_firstImpossible 9 = .ok (.getfield 93, 3) := by decide +kernel
theorem dX11_firstImpossible_12 : decode cX11_firstImpossible 12 = .ok (.if_icmp .ge 68, 3) := by decide +kernel
theorem dX11_firstImpossible_80 : decode cX11_firstImpossible 80 = .ok (.iconst (-1), 1) := by decide +kernel
theorem dX11_firstImpossible_81 : decode cX11_firstImpossible 81 = .ok (.ireturn, 1) := by decide +kernel
theorem dX12_is_0 : decode cX12_is 0 = .ok (.iload_n 0, 1) := by decide +kernel
theorem dX12_is_1 : decode cX12_is 1 = .ok (.iload_n 1, 1) := by decide +kernel
theorem dX12_is_2 : decode cX12_is 2 = .ok (.if_icmp .lt 12, 3) := by decide +kernel
theorem dX12_is_5 : decode cX12_is 5 = .ok (.iload_n 0, 1) := by decide +kernel
theorem dX12_is_6 : decode cX12_is 6 = .ok (.iload_n 2, 1) := by decide +kernel
theorem dX12_is_7 : decode cX12_is 7 = .ok (.if_icmp .gt 7, 3) := by decide +kernel
theorem dX12_is_10 : decode cX12_is 10 = .ok (.iconst 1, 1) := by decide +kernel
theorem dX12_is_11 : decode cX12_is 11 = .ok (.goto 4, 3) := by decide +kernel
theorem dX12_is_14 : decode cX12_is 14 = .ok (.iconst 0, 1) := by decide +kernel
theorem dX12_is_15 : decode cX12_is 15 = .ok (.ireturn, 1) := by decide +kernel
theorem dX12_put_0 : decode cX12_put 0 = .ok (.bipush 24, 2) := by decide +kernel
theorem dX12_put_2 : decode cX12_put 2 = .ok (.istore_n 2, 1) := by decide +kernel
theorem dX12_put_3 : decode cX12_put 3 = .ok (.iload_n 2, 1) := by decide +kernel
theorem dX12_put_4 : decode cX12_put 4 = .ok (.ifCond .lt 35, 3) := by decide +kernel
theorem dX12_put_7 : decode cX12_put 7 = .ok (.aload_n 0, 1) := by decide +kernel
theorem dX12_put_8 : decode cX12_put 8 = .ok (.getfield 7, 3) := by decide +kernel
theorem dX12_put_11 : decode cX12_put 11 = .ok (.aload_n 0, 1) := by decide +kernel
theorem dX12_put_12 : decode cX12_put 12 = .ok (.getfield 13, 3) := by decide +kernel
theorem dX12_put_15 : decode cX12_put 15 = .ok (.iload_n 1, 1) := by decide +kernel
theorem dX12_put_16 : decode cX12_put 16 = .ok (.iload_n 2, 1) := by decide +kernel
theorem dX12_put_17 : decode cX12_put 17 = .ok (.ishr, 1) := by decide +kernel
theorem dX12_put_18 : decode cX12_put 18 = .ok (.sipush 255, 3) := by decide +kernel
theorem dX12_put_21 : decode cX12_put 21 = .ok (.iand, 1) := by decide +kernel
theorem dX12_put_22 : decode cX12_put 22 = .ok (.iastore, 1) := by decide +kernel
theorem dX12_put_23 : decode cX12_put 23 = .ok (.aload_n 0, 1) := by decide +kernel
theorem dX12_put_24 : decode cX12_put 24 = .ok (.dup, 1) := by decide +kernel
theorem dX12_put_25 : decode cX12_put 25 = .ok (.getfield 13, 3) := by decide +kernel
theorem dX12_put_28 : decode cX12_put 28 = .ok (.iconst 1, 1) := by decide +kernel
theorem dX12_put_29 : decode cX12_put 29 = .ok (.iadd, 1) := by decide +kernel
theorem dX12_put_30 : decode cX12_put 30 = .ok (.putfield 13, 3) := by decide +kernel
theorem dX12_put_33 : decode cX12_put 33 = .ok (.iinc 2 (-8), 3) := by decide +kernel
theorem dX12_put_36 : decode cX12_put 36 = .ok (.goto (-33), 3) := by decide +kernel
theorem dX12_put_39 : decode cX12_put 39 = .ok (.return_, 1) := by decide +kernel
theorem dX12_feed_0 : decode cX12_feed 0 = .ok (.aload_n 0, 1) := by decide +kernel
theorem dX12_feed_1 : decode cX12_feed 1 = .ok (.getfield 13, 3) := by decide +kernel
theorem dX12_feed_4 : decode cX12_feed 4 = .ok (.bipush 20, 2) := by decide +kernel
theorem dX12_feed_6 : decode cX12_feed 6 = .ok (.iadd, 1) := by decide +kernel
theorem dX12_feed_7 : decode cX12_feed 7 = .ok (.sipush 1600, 3) := by decide +kernel
theorem dX12_feed_10 : decode cX12_feed 10 = .ok (.if_icmp .le 9, 3) := by decide +kernel
theorem dX12_feed_19 : decode cX12_feed 19 = .ok (.aload_n 0, 1) := by decide +kernel
theorem dX12_feed_20 : decode cX12_feed 20 = .ok (.iload_n 1, 1) := by decide +kernel
theorem dX12_feed_21 : decode cX12_feed 21 = .ok (.invokevirtual 275, 3) := by decide +kernel
theorem dX12_feed_24 : decode cX12_feed 24 = .ok (.aload_n 0, 1) := by decide +kernel
theorem dX12_feed_25 : decode cX12_feed 25 = .ok (.iload_n 2, 1) := by decide +kernel
theorem dX12_feed_26 : decode cX12_feed 26 = .ok (.invokevirtual 275, 3) := by decide +kernel
theorem dX12_feed_29 : decode cX12_feed 29 = .ok (.aload_n 0, 1) := by decide +kernel
theorem dX12_feed_30 : decode cX12_feed 30 = .ok (.iload_n 3, 1) := by decide +kernel
theorem dX12_feed_31 : decode cX12_feed 31 = .ok (.invokevirtual 275, 3) := by decide +kernel
theorem dX12_feed_34 : decode cX12_feed 34 = .ok (.aload_n 0, 1) := by decide +kernel
theorem dX12_feed_35 : decode cX12_feed 35 = .ok (.iload 4, 2) := by decide +kernel
theorem dX12_feed_37 : decode cX12_feed 37 = .ok (.invokevirtual 275, 3) := by decide +kernel
theorem dX12_feed_40 : decode cX12_feed 40 = .ok (.aload_n 0, 1) := by decide +kernel
theorem dX12_feed_41 : decode cX12_feed 41 = .ok (.iload 5, 2) := by decide +kernel
theorem dX12_feed_43 : decode cX12_feed 43 = .ok (.invokevirtual 275, 3) := by decide +kernel
theorem dX12_feed_46 : decode cX12_feed 46 = .ok (.aload_n 0, 1) := by decide +kernel
theorem dX12_feed_47 : decode cX12_feed 47 = .ok (.getfield 13, 3) := by decide +kernel
theorem dX12_feed_50 : decode cX12_feed 50 = .ok (.ireturn, 1) := by decide +kernel
theorem dX12_end_0 : decode cX12_end 0 = .ok (.iload_n 1, 1) := by decide +kernel
theorem dX12_end_1 : decode cX12_end 1 = .ok (.ifCond .lt 11, 3) := by decide +kernel
theorem dX12_end_4 : decode cX12_end 4 = .ok (.iload_n 1, 1) := by decide +kernel
theorem dX12_end_5 : decode cX12_end 5 = .ok (.aload_n 0, 1) := by decide +kernel
theorem dX12_end_6 : decode cX12_end 6 = .ok (.getfield 13, 3) := by decide +kernel
theorem dX12_end_9 : decode cX12_end 9 = .ok (.if_icmp .le 17, 3) := by decide +kernel
theorem dX12_end_12 : decode cX12_end 12 = .ok (.aload_n 0, 1) := by decide +kernel
theorem dX12_end_13 : decode cX12_end 13 = .ok (.iconst 0, 1) := by decide +kernel
theorem dX12_end_14 : decode cX12_end 14 = .ok (.invokevirtual 271, 3) := by decide +kernel
theorem dX12_end_17 : decode cX12_end 17 = .ok (.ifCond .lt 7, 3) := by decide +kernel
theorem dX12_end_24 : decode cX12_end 24 = .ok (.iconst 0, 1) := by decide +kernel
theorem dX12_end_25 : decode cX12_end 25 = .ok (.ireturn, 1) := by decide +kernel
theorem dX12_end_26 : decode cX12_end 26 = .ok (.aload_n 0, 1) := by decide +kernel
theorem dX12_end_27 : decode cX12_end 27 = .ok (.iload_n 1, 1) := by decide +kernel
theorem dX12_end_28 : decode cX12_end 28 = .ok (.putfield 13, 3) := by decide +kernel
theorem dX12_end_31 : decode cX12_end 31 = .ok (.iconst 1, 1) := by decide +kernel
theorem dX12_end_32 : decode cX12_end 32 = .ok (.ireturn, 1) := by decide +kernel
theorem dX12_ahead_0 : decode cX12_ahead 0 = .ok (.aload_n 0, 1) := by decide +kernel
theorem dX12_ahead_1 : decode cX12_ahead 1 = .ok (.getfield 26, 3) := by decide +kernel
theorem dX12_ahead_4 : decode cX12_ahead 4 = .ok (.istore_n 1, 1) := by decide +kernel
theorem dX12_ahead_5 : decode cX12_ahead 5 = .ok (.iload_n 1, 1) := by decide +kernel
theorem dX12_ahead_6 : decode cX12_ahead 6 = .ok (.aload_n 0, 1) := by decide +kernel
theorem dX12_ahead_7 : decode cX12_ahead 7 = .ok (.getfield 17, 3) := by decide +kernel
theorem dX12_ahead_10 : decode cX12_ahead 10 = .ok (.if_icmp .ge 31, 3) := by decide +kernel
theorem dX12_ahead_41 : decode cX12_ahead 41 = .ok (.aload_n 0, 1) := by decide +kernel
theorem dX12_ahead_42 : decode cX12_ahead 42 = .ok (.iload_n 1, 1) := by decide +kernel
theorem dX12_ahead_43 : decode cX12_ahead 43 = .ok (.putfield 23, 3) := by decide +kernel
theorem dX12_ahead_46 : decode cX12_ahead 46 = .ok (.aload_n 0, 1) := by decide +kernel
theorem dX12_ahead_47 : decode cX12_ahead 47 = .ok (.iload_n 1, 1) := by decide +kernel
theorem dX12_ahead_48 : decode cX12_ahead 48 = .ok (.putfield 26, 3) := by decide +kernel
theorem dX12_ahead_51 : decode cX12_ahead 51 = .ok (.aload_n 0, 1) := by decide +kernel
theorem dX12_ahead_52 : decode cX12_ahead 52 = .ok (.iconst 0, 1) := by decide +kernel
theorem dX12_ahead_53 : decode cX12_ahead 53 = .ok (.putfield 20, 3) := by decide +kernel
theorem dX12_ahead_56 : decode cX12_ahead 56 = .ok (.iload_n 1, 1) := by decide +kernel
theorem dX12_ahead_57 : decode cX12_ahead 57 = .ok (.aload_n 0, 1) := by decide +kernel
theorem dX12_ahead_58 : decode cX12_ahead 58 = .ok (.getfield 17, 3) := by decide +kernel
theorem dX12_ahead_61 : decode cX12_ahead 61 = .ok (.if_icmp .lt 4, 3) := by decide +kernel
theorem dX12_ahead_64 : decode cX12_ahead 64 = .ok (.return_, 1) := by decide +kernel
theorem dX12_town_0 : decode cX12_town 0 = .ok (.aload_n 0, 1) := by decide +kernel
theorem dX12_town_1 : decode cX12_town 1 = .ok (.aload_n 0, 1) := by decide +kernel
theorem dX12_town_2 : decode cX12_town 2 = .ok (.getfield 13, 3) := by decide +kernel
theorem dX12_town_5 : decode cX12_town 5 = .ok (.putfield 17, 3) := by decide +kernel
theorem dX12_town_8 : decode cX12_town 8 = .ok (.aload_n 0, 1) := by decide +kernel
theorem dX12_town_9 : decode cX12_town 9 = .ok (.iconst 0, 1) := by decide +kernel
theorem dX12_town_10 : decode cX12_town 10 = .ok (.putfield 13, 3) := by decide +kernel
theorem dX12_town_13 : decode cX12_town 13 = .ok (.aload_n 0, 1) := by decide +kernel
theorem dX12_town_14 : decode cX12_town 14 = .ok (.iconst 0, 1) := by decide +kernel
theorem dX12_town_15 : decode cX12_town 15 = .ok (.putfield 26, 3) := by decide +kernel
theorem dX12_town_18 : decode cX12_town 18 = .ok (.aload_n 0, 1) := by decide +kernel
theorem dX12_town_19 : decode cX12_town 19 = .ok (.iconst 0, 1) := by decide +kernel
theorem dX12_town_20 : decode cX12_town 20 = .ok (.putfield 36, 3) := by decide +kernel
theorem dX12_town_23 : decode cX12_town 23 = .ok (.aload_n 0, 1) := by decide +kernel
theorem dX12_town_24 : decode cX12_town 24 = .ok (.iconst (-1), 1) := by decide +kernel
theorem dX12_town_25 : decode cX12_town 25 = .ok (.putfield 39, 3) := by decide +kernel
theorem dX12_town_28 : decode cX12_town 28 = .ok (.aload_n 0, 1) := by decide +kernel
theorem dX12_town_29 : decode cX12_town 29 = .ok (.iconst 1, 1) := by decide +kernel
theorem dX12_town_30 : decode cX12_town 30 = .ok (.aload_n 0, 1) := by decide +kernel
theorem dX12_town_31 : decode cX12_town 31 = .ok (.getfield 48, 3) := by decide +kernel
theorem dX12_town_34 : decode cX12_town 34 = .ok (.isub, 1) := by decide +kernel
theorem dX12_town_35 : decode cX12_town 35 = .ok (.putfield 155, 3) := by decide +kernel
theorem dX12_town_38 : decode cX12_town 38 = .ok (.aload_n 0, 1) := by decide +kernel
theorem dX12_town_39 : decode cX12_town 39 = .ok (.getfield 51, 3) := by decide +kernel
theorem dX12_town_42 : decode cX12_town 42 = .ok (.aload_n 0, 1) := by decide +kernel
theorem dX12_town_43 : decode cX12_town 43 = .ok (.getfield 155, 3) := by decide +kernel
theorem dX12_town_46 : decode cX12_town 46 = .ok (.iconst 0, 1) := by decide +kernel
theorem dX12_town_47 : decode cX12_town 47 = .ok (.iastore, 1) := by decide +kernel
theorem dX12_town_48 : decode cX12_town 48 = .ok (.aload_n 0, 1) := by decide +kernel
theorem dX12_town_49 : decode cX12_town 49 = .ok (.getfield 58, 3) := by decide +kernel
theorem dX12_town_52 : decode cX12_town 52 = .ok (.aload_n 0, 1) := by decide +kernel
theorem dX12_town_53 : decode cX12_town 53 = .ok (.getfield 155, 3) := by decide +kernel
theorem dX12_town_56 : decode cX12_town 56 = .ok (.iconst 0, 1) := by decide +kernel
theorem dX12_town_57 : decode cX12_town 57 = .ok (.iastore, 1) := by decide +kernel
theorem dX12_town_58 : decode cX12_town 58 = .ok (.aload_n 0, 1) := by decide +kernel
theorem dX12_town_59 : decode cX12_town 59 = .ok (.getfield 80, 3) := by decide +kernel
theorem dX12_town_62 : decode cX12_town 62 = .ok (.aload_n 0, 1) := by decide +kernel
theorem dX12_town_63 : decode cX12_town 63 = .ok (.getfield 155, 3) := by decide +kernel
theorem dX12_town_66 : decode cX12_town 66 = .ok (.iconst 0, 1) := by decide +kernel
theorem dX12_town_67 : decode cX12_town 67 = .ok (.iastore, 1) := by decide +kernel
theorem dX12_town_68 : decode cX12_town 68 = .ok (.aload_n 0, 1) := by decide +kernel
theorem dX12_town_69 : decode cX12_town 69 = .ok (.getfield 95, 3) := by decide +kernel
theorem dX12_town_72 : decode cX12_town 72 = .ok (.aload_n 0, 1) := by decide +kernel
theorem dX12_town_73 : decode cX12_town 73 = .ok (.getfield 155, 3) := by decide +kernel
theorem dX12_town_76 : decode cX12_town 76 = .ok (.iconst 0, 1) := by decide +kernel
theorem dX12_town_77 : decode cX12_town 77 = .ok (.iastore, 1) := by decide +kernel
theorem dX12_town_78 : decode cX12_town 78 = .ok (.aload_n 0, 1) := by decide +kernel
theorem dX12_town_79 : decode cX12_town 79 = .ok (.getfield 104, 3) := by decide +kernel
theorem dX12_town_82 : decode cX12_town 82 = .ok (.aload_n 0, 1) := by decide +kernel
theorem dX12_town_83 : decode cX12_town 83 = .ok (.getfield 155, 3) := by decide +kernel
theorem dX12_town_86 : decode cX12_town 86 = .ok (.iconst 0, 1) := by decide +kernel
theorem dX12_town_87 : decode cX12_town 87 = .ok (.iastore, 1) := by decide +kernel
theorem dX12_town_88 : decode cX12_town 88 = .ok (.aload_n 0, 1) := by decide +kernel
theorem dX12_town_89 : decode cX12_town 89 = .ok (.getfield 113, 3) := by decide +kernel
theorem dX12_town_92 : decode cX12_town 92 = .ok (.aload_n 0, 1) := by decide +kernel
theorem dX12_town_93 : decode cX12_town 93 = .ok (.getfield 155, 3) := by decide +kernel
theorem dX12_town_96 : decode cX12_town 96 = .ok (.iconst 0, 1) := by decide +kernel
theorem dX12_town_97 : decode cX12_town 97 = .ok (.iastore, 1) := by decide +kernel
theorem dX12_town_98 : decode cX12_town 98 = .ok (.aload_n 0, 1) := by decide +kernel
theorem dX12_town_99 : decode cX12_town 99 = .ok (.getfield 122, 3) := by decide +kernel
theorem dX12_town_102 : decode cX12_town 102 = .ok (.aload_n 0, 1) := by decide +kernel
theorem dX12_town_103 : decode cX12_town 103 = .ok (.getfield 155, 3) := by decide +kernel
theorem dX12_town_106 : decode cX12_town 106 = .ok (.iconst 0, 1) := by decide +kernel
theorem dX12_town_107 : decode cX12_town 107 = .ok (.iastore, 1) := by decide +kernel
theorem dX12_town_108 : decode cX12_town 108 = .ok (.aload_n 0, 1) := by decide +kernel
theorem dX12_town_109 : decode cX12_town 109 = .ok (.getfield 134, 3) := by decide +kernel
theorem dX12_town_112 : decode cX12_town 112 = .ok (.aload_n 0, 1) := by decide +kernel
theorem dX12_town_113 : decode cX12_town 113 = .ok (.getfield 155, 3) := by decide +kernel
theorem dX12_town_116 : decode cX12_town 116 = .ok (.iconst 0, 1) := by decide +kernel
theorem dX12_town_117 : decode cX12_town 117 = .ok (.iastore, 1) := by decide +kernel
theorem dX12_town_118 : decode cX12_town 118 = .ok (.aload_n 0, 1) := by decide +kernel
theorem dX12_town_119 : decode cX12_town 119 = .ok (.iconst 0, 1) := by decide +kernel
theorem dX12_town_120 : decode cX12_town 120 = .ok (.putfield 152, 3) := by decide +kernel
theorem dX12_town_123 : decode cX12_town 123 = .ok (.iconst 0, 1) := by decide +kernel
theorem dX12_town_124 : decode cX12_town 124 = .ok (.istore_n 1, 1) := by decide +kernel
