theorem dX12_is_0 : decode cX12_is 0 = .ok (.iload_n 0, 1) := by decide +kernel
theorem dX12_is_1 : decode cX12_is 1 = .ok (.iload_n 1, 1) := by decide +kernel
theorem dX12_is_2 : decode cX12_is 2 = .ok (.if_icmp .lt 12, 3) := by decide +kernel
theorem dX12_is_5 : decode cX12_is 5 = .ok (.iload_n 0, 1) := by decide +kernel
theorem dX12_is_6 : decode cX12_is 6 = .ok (.iload_n 2, 1) := by decide +kernel
theorem dX12_is_7 : decode cX12_is 7 = .ok (.if_icmp .gt 7, 3) := by decide +kernel
theorem dX12_is_10 : decode cX12_is 10 = .ok (.iconst 1, 1) := by decide +kernel
theorem dX12_is_11 : decode cX12_is 11 = .ok (.goto 4, 3) := by decide +kernel
theorem dX12_is_14 : decode cX12_is 14 = .ok (.iconst 0, 1) := by decide +kernel
theorem dX12_is_15 : decode cX12_is 15 = .ok (.ireturn, 1) := by decide +kernel
theorem dX12_put_0 : decode cX12_put 0 = .ok (.bipush 24, 2) := by decide +kernel
theorem dX12_put_2 : decode cX12_put 2 = .ok (.istore_n 2, 1) := by decide +kernel
theorem dX12_put_3 : decode cX12_put 3 = .ok (.iload_n 2, 1) := by decide +kernel
theorem dX12_put_4 : decode cX12_put 4 = .ok (.ifCond .lt 35, 3) := by decide +kernel
theorem dX12_put_7 : decode cX12_put 7 = .ok (.aload_n 0, 1) := by decide +kernel
theorem dX12_put_8 : decode cX12_put 8 = .ok (.getfield 7, 3) := by decide +kernel
theorem dX12_put_11 : decode cX12_put 11 = .ok (.aload_n 0, 1) := by decide +kernel
theorem dX12_put_12 : decode cX12_put 12 = .ok (.getfield 13, 3) := by decide +kernel
theorem dX12_put_15 : decode cX12_put 15 = .ok (.iload_n 1, 1) := by decide +kernel
theorem dX12_put_16 : decode cX12_put 16 = .ok (.iload_n 2, 1) := by decide +kernel
theorem dX12_put_17 : decode cX12_put 17 = .ok (.ishr, 1) := by decide +kernel
theorem dX12_put_18 : decode cX12_put 18 = .ok (.sipush 255, 3) := by decide +kernel
theorem dX12_put_21 : decode cX12_put 21 = .ok (.iand, 1) := by decide +kernel
theorem dX12_put_22 : decode cX12_put 22 = .ok (.iastore, 1) := by decide +kernel
theorem dX12_put_23 : decode cX12_put 23 = .ok (.aload_n 0, 1) := by decide +kernel
theorem dX12_put_24 : decode cX12_put 24 = .ok (.dup, 1) := by decide +kernel
theorem dX12_put_25 : decode cX12_put 25 = .ok (.getfield 13, 3) := by decide +kernel
theorem dX12_put_28 : decode cX12_put 28 = .ok (.iconst 1, 1) := by decide +kernel
theorem dX12_put_29 : decode cX12_put 29 = .ok (.iadd, 1) := by decide +kernel
theorem dX12_put_30 : decode cX12_put 30 = .ok (.putfield 13, 3) := by decide +kernel
theorem dX12_put_33 : decode cX12_put 33 = .ok (.iinc 2 (-8), 3) := by decide +kernel
theorem dX12_put_36 : decode cX12_put 36 = .ok (.goto (-33), 3) := by decide +kernel
theorem dX12_put_39 : decode cX12_put 39 = .ok (.return_, 1) := by decide +kernel
theorem dX12_feed_0 : decode cX12_feed 0 = .ok (.aload_n 0, 1) := by decide +kernel
theorem dX12_feed_1 : decode cX12_feed 1 = .ok (.getfield 13, 3) := by decide +kernel
theorem dX12_feed_4 : decode cX12_feed 4 = .ok (.bipush 20, 2) := by decide +kernel
theorem dX12_feed_6 : decode cX12_feed 6 = .ok (.iadd, 1) := by decide +kernel
theorem dX12_feed_7 : decode cX12_feed 7 = .ok (.sipush 1600, 3) := by decide +kernel
theorem dX12_feed_10 : decode cX12_feed 10 = .ok (.if_icmp .le 9, 3) := by decide +kernel
theorem dX12_feed_13 : decode cX12_feed 13 = .ok (.aload_n 0, 1) := by decide +kernel
theorem dX12_feed_14 : decode cX12_feed 14 = .ok (.iconst 0, 1) := by decide +kernel
theorem dX12_feed_15 : decode cX12_feed 15 = .ok (.invokevirtual 271, 3) := by decide +kernel
theorem dX12_feed_18 : decode cX12_feed 18 = .ok (.ireturn, 1) := by decide +kernel
theorem dX12_feed_19 : decode cX12_feed 19 = .ok (.aload_n 0, 1) := by decide +kernel
theorem dX12_feed_20 : decode cX12_feed 20 = .ok (.iload_n 1, 1) := by decide +kernel
theorem dX12_feed_21 : decode cX12_feed 21 = .ok (.invokevirtual 275, 3) := by decide +kernel
theorem dX12_feed_24 : decode cX12_feed 24 = .ok (.aload_n 0, 1) := by decide +kernel
theorem dX12_feed_25 : decode cX12_feed 25 = .ok (.iload_n 2, 1) := by decide +kernel
theorem dX12_feed_26 : decode cX12_feed 26 = .ok (.invokevirtual 275, 3) := by decide +kernel
theorem dX12_feed_29 : decode cX12_feed 29 = .ok (.aload_n 0, 1) := by decide +kernel
theorem dX12_feed_30 : decode cX12_feed 30 = .ok (.iload_n 3, 1) := by decide +kernel
theorem dX12_feed_31 : decode cX12_feed 31 = .ok (.invokevirtual 275, 3) := by decide +kernel
theorem dX12_feed_34 : decode cX12_feed 34 = .ok (.aload_n 0, 1) := by decide +kernel
theorem dX12_feed_35 : decode cX12_feed 35 = .ok (.iload 4, 2) := by decide +kernel
theorem dX12_feed_37 : decode cX12_feed 37 = .ok (.invokevirtual 275, 3) := by decide +kernel
theorem dX12_feed_40 : decode cX12_feed 40 = .ok (.aload_n 0, 1) := by decide +kernel
theorem dX12_feed_41 : decode cX12_feed 41 = .ok (.iload 5, 2) := by decide +kernel
theorem dX12_feed_43 : decode cX12_feed 43 = .ok (.invokevirtual 275, 3) := by decide +kernel
theorem dX12_feed_46 : decode cX12_feed 46 = .ok (.aload_n 0, 1) := by decide +kernel
theorem dX12_feed_47 : decode cX12_feed 47 = .ok (.getfield 13, 3) := by decide +kernel
theorem dX12_feed_50 : decode cX12_feed 50 = .ok (.ireturn, 1) := by decide +kernel
theorem dX12_end_0 : decode cX12_end 0 = .ok (.iload_n 1, 1) := by decide +kernel
theorem dX12_end_1 : decode cX12_end 1 = .ok (.ifCond .lt 11, 3) := by decide +kernel
theorem dX12_end_4 : decode cX12_end 4 = .ok (.iload_n 1, 1) := by decide +kernel
theorem dX12_end_5 : decode cX12_end 5 = .ok (.aload_n 0, 1) := by decide +kernel
theorem dX12_end_6 : decode cX12_end 6 = .ok (.getfield 13, 3) := by decide +kernel
theorem dX12_end_9 : decode cX12_end 9 = .ok (.if_icmp .le 17, 3) := by decide +kernel
theorem dX12_end_12 : decode cX12_end 12 = .ok (.aload_n 0, 1) := by decide +kernel
theorem dX12_end_13 : decode cX12_end 13 = .ok (.iconst 0, 1) := by decide +kernel
theorem dX12_end_14 : decode cX12_end 14 = .ok (.invokevirtual 271, 3) := by decide +kernel
theorem dX12_end_17 : decode cX12_end 17 = .ok (.ifCond .lt 7, 3) := by decide +kernel
theorem dX12_end_24 : decode cX12_end 24 = .ok (.iconst 0, 1) := by decide +kernel
theorem dX12_end_25 : decode cX12_end 25 = .ok (.ireturn, 1) := by decide +kernel
theorem dX12_end_26 : decode cX12_end 26 = .ok (.aload_n 0, 1) := by decide +kernel
theorem dX12_end_27 : decode cX12_end 27 = .ok (.iload_n 1, 1) := by decide +kernel
theorem dX12_end_28 : decode cX12_end 28 = .ok (.putfield 13, 3) := by decide +kernel
theorem dX12_end_31 : decode cX12_end 31 = .ok (.iconst 1, 1) := by decide +kernel
theorem dX12_end_32 : decode cX12_end 32 = .ok (.ireturn, 1) := by decide +kernel
theorem dX12_blame_0 : decode cX12_blame 0 = .ok (.aload_n 0, 1) := by decide +kernel
theorem dX12_blame_1 : decode cX12_blame 1 = .ok (.getfield 36, 3) := by decide +kernel
theorem dX12_blame_4 : decode cX12_blame 4 = .ok (.ifCond .le 4, 3) := by decide +kernel
theorem dX12_blame_7 : decode cX12_blame 7 = .ok (.return_, 1) := by decide +kernel
theorem dX12_blame_8 : decode cX12_blame 8 = .ok (.aload_n 0, 1) := by decide +kernel
theorem dX12_blame_9 : decode cX12_blame 9 = .ok (.iload_n 1, 1) := by decide +kernel
theorem dX12_blame_10 : decode cX12_blame 10 = .ok (.putfield 36, 3) := by decide +kernel
theorem dX12_blame_13 : decode cX12_blame 13 = .ok (.aload_n 0, 1) := by decide +kernel
theorem dX12_blame_14 : decode cX12_blame 14 = .ok (.iload_n 2, 1) := by decide +kernel
theorem dX12_blame_15 : decode cX12_blame 15 = .ok (.putfield 39, 3) := by decide +kernel
theorem dX12_blame_18 : decode cX12_blame 18 = .ok (.return_, 1) := by decide +kernel
theorem dX12_isLetter_0 : decode cX12_isLetter 0 = .ok (.iload_n 0, 1) := by decide +kernel
theorem dX12_isLetter_1 : decode cX12_isLetter 1 = .ok (.bipush 97, 2) := by decide +kernel
theorem dX12_isLetter_3 : decode cX12_isLetter 3 = .ok (.if_icmp .lt 13, 3) := by decide +kernel
theorem dX12_isLetter_6 : decode cX12_isLetter 6 = .ok (.iload_n 0, 1) := by decide +kernel
theorem dX12_isLetter_7 : decode cX12_isLetter 7 = .ok (.bipush 122, 2) := by decide +kernel
theorem dX12_isLetter_9 : decode cX12_isLetter 9 = .ok (.if_icmp .gt 7, 3) := by decide +kernel
theorem dX12_isLetter_12 : decode cX12_isLetter 12 = .ok (.iconst 1, 1) := by decide +kernel
theorem dX12_isLetter_13 : decode cX12_isLetter 13 = .ok (.goto 4, 3) := by decide +kernel
theorem dX12_isLetter_16 : decode cX12_isLetter 16 = .ok (.iconst 0, 1) := by decide +kernel
theorem dX12_isLetter_17 : decode cX12_isLetter 17 = .ok (.ireturn, 1) := by decide +kernel
theorem dX12_isDigit_0 : decode cX12_isDigit 0 = .ok (.iload_n 0, 1) := by decide +kernel
theorem dX12_isDigit_1 : decode cX12_isDigit 1 = .ok (.bipush 48, 2) := by decide +kernel
theorem dX12_isDigit_3 : decode cX12_isDigit 3 = .ok (.if_icmp .lt 13, 3) := by decide +kernel
theorem dX12_isDigit_6 : decode cX12_isDigit 6 = .ok (.iload_n 0, 1) := by decide +kernel
theorem dX12_isDigit_7 : decode cX12_isDigit 7 = .ok (.bipush 57, 2) := by decide +kernel
theorem dX12_isDigit_9 : decode cX12_isDigit 9 = .ok (.if_icmp .gt 7, 3) := by decide +kernel
theorem dX12_isDigit_12 : decode cX12_isDigit 12 = .ok (.iconst 1, 1) := by decide +kernel
theorem dX12_isDigit_13 : decode cX12_isDigit 13 = .ok (.goto 4, 3) := by decide +kernel
theorem dX12_isDigit_16 : decode cX12_isDigit 16 = .ok (.iconst 0, 1) := by decide +kernel
theorem dX12_isDigit_17 : decode cX12_isDigit 17 = .ok (.ireturn, 1) := by decide +kernel
theorem dX12_isSign_0 : decode cX12_isSign 0 = .ok (.aload_n 0, 1) := by decide +kernel
theorem dX12_isSign_1 : decode cX12_isSign 1 = .ok (.getfield 20, 3) := by decide +kernel
theorem dX12_isSign_4 : decode cX12_isSign 4 = .ok (.iconst 3, 1) := by decide +kernel
theorem dX12_isSign_5 : decode cX12_isSign 5 = .ok (.if_icmp .ne 15, 3) := by decide +kernel
theorem dX12_isSign_8 : decode cX12_isSign 8 = .ok (.aload_n 0, 1) := by decide +kernel
theorem dX12_isSign_9 : decode cX12_isSign 9 = .ok (.getfield 29, 3) := by decide +kernel
theorem dX12_isSign_12 : decode cX12_isSign 12 = .ok (.iload_n 1, 1) := by decide +kernel
theorem dX12_isSign_13 : decode cX12_isSign 13 = .ok (.if_icmp .ne 7, 3) := by decide +kernel
theorem dX12_isSign_16 : decode cX12_isSign 16 = .ok (.iconst 1, 1) := by decide +kernel
theorem dX12_isSign_17 : decode cX12_isSign 17 = .ok (.goto 4, 3) := by decide +kernel
theorem dX12_isSign_20 : decode cX12_isSign 20 = .ok (.iconst 0, 1) := by decide +kernel
theorem dX12_isSign_21 : decode cX12_isSign 21 = .ok (.ireturn, 1) := by decide +kernel
theorem dX12_isWord_0 : decode cX12_isWord 0 = .ok (.aload_n 0, 1) := by decide +kernel
theorem dX12_isWord_1 : decode cX12_isWord 1 = .ok (.getfield 20, 3) := by decide +kernel
theorem dX12_isWord_4 : decode cX12_isWord 4 = .ok (.iconst 1, 1) := by decide +kernel
theorem dX12_isWord_5 : decode cX12_isWord 5 = .ok (.if_icmp .ne 16, 3) := by decide +kernel
theorem dX12_isWord_8 : decode cX12_isWord 8 = .ok (.aload_n 0, 1) := by decide +kernel
theorem dX12_isWord_9 : decode cX12_isWord 9 = .ok (.getfield 32, 3) := by decide +kernel
theorem dX12_isWord_12 : decode cX12_isWord 12 = .ok (.lload_n 1, 1) := by decide +kernel
theorem dX12_isWord_13 : decode cX12_isWord 13 = .ok (.lcmp, 1) := by decide +kernel
theorem dX12_isWord_14 : decode cX12_isWord 14 = .ok (.ifCond .ne 7, 3) := by decide +kernel
theorem dX12_isWord_17 : decode cX12_isWord 17 = .ok (.iconst 1, 1) := by decide +kernel
theorem dX12_isWord_18 : decode cX12_isWord 18 = .ok (.goto 4, 3) := by decide +kernel
theorem dX12_isWord_21 : decode cX12_isWord 21 = .ok (.iconst 0, 1) := by decide +kernel
theorem dX12_isWord_22 : decode cX12_isWord 22 = .ok (.ireturn, 1) := by decide +kernel
theorem dX12_isOwn_0 : decode cX12_isOwn 0 = .ok (.lload_n 1, 1) := by decide +kernel
theorem dX12_isOwn_1 : decode cX12_isOwn 1 = .ok (.ldc2_w 296, 3) := by decide +kernel
theorem dX12_isOwn_4 : decode cX12_isOwn 4 = .ok (.lcmp, 1) := by decide +kernel
theorem dX12_isOwn_5 : decode cX12_isOwn 5 = .ok (.ifCond .eq 35, 3) := by decide +kernel
theorem dX12_isOwn_8 : decode cX12_isOwn 8 = .ok (.lload_n 1, 1) := by decide +kernel
theorem dX12_isOwn_9 : decode cX12_isOwn 9 = .ok (.ldc2_w 298, 3) := by decide +kernel
theorem dX12_isOwn_12 : decode cX12_isOwn 12 = .ok (.lcmp, 1) := by decide +kernel
theorem dX12_isOwn_13 : decode cX12_isOwn 13 = .ok (.ifCond .eq 27, 3) := by decide +kernel
theorem dX12_isOwn_16 : decode cX12_isOwn 16 = .ok (.lload_n 1, 1) := by decide +kernel
theorem dX12_isOwn_17 : decode cX12_isOwn 17 = .ok (.ldc2_w 300, 3) := by decide +kernel
theorem dX12_isOwn_20 : decode cX12_isOwn 20 = .ok (.lcmp, 1) := by decide +kernel
theorem dX12_isOwn_21 : decode cX12_isOwn 21 = .ok (.ifCond .eq 19, 3) := by decide +kernel
theorem dX12_isOwn_24 : decode cX12_isOwn 24 = .ok (.lload_n 1, 1) := by decide +kernel
theorem dX12_isOwn_25 : decode cX12_isOwn 25 = .ok (.ldc2_w 302, 3) := by decide +kernel
theorem dX12_isOwn_28 : decode cX12_isOwn 28 = .ok (.lcmp, 1) := by decide +kernel
theorem dX12_isOwn_29 : decode cX12_isOwn 29 = .ok (.ifCond .eq 11, 3) := by decide +kernel
theorem dX12_isOwn_32 : decode cX12_isOwn 32 = .ok (.lload_n 1, 1) := by decide +kernel
theorem dX12_isOwn_33 : decode cX12_isOwn 33 = .ok (.ldc2_w 304, 3) := by decide +kernel
theorem dX12_isOwn_36 : decode cX12_isOwn 36 = .ok (.lcmp, 1) := by decide +kernel
theorem dX12_isOwn_37 : decode cX12_isOwn 37 = .ok (.ifCond .ne 5, 3) := by decide +kernel
theorem dX12_isOwn_40 : decode cX12_isOwn 40 = .ok (.iconst 1, 1) := by decide +kernel
theorem dX12_isOwn_41 : decode cX12_isOwn 41 = .ok (.ireturn, 1) := by decide +kernel
theorem dX12_isOwn_42 : decode cX12_isOwn 42 = .ok (.lload_n 1, 1) := by decide +kernel
theorem dX12_isOwn_43 : decode cX12_isOwn 43 = .ok (.ldc2_w 306, 3) := by decide +kernel
theorem dX12_isOwn_46 : decode cX12_isOwn 46 = .ok (.lcmp, 1) := by decide +kernel
theorem dX12_isOwn_47 : decode cX12_isOwn 47 = .ok (.ifCond .eq 35, 3) := by decide +kernel
theorem dX12_isOwn_50 : decode cX12_isOwn 50 = .ok (.lload_n 1, 1) := by decide +kernel
theorem dX12_isOwn_51 : decode cX12_isOwn 51 = .ok (.ldc2_w 308, 3) := by decide +kernel
theorem dX12_isOwn_54 : decode cX12_isOwn 54 = .ok (.lcmp, 1) := by decide +kernel
theorem dX12_isOwn_55 : decode cX12_isOwn 55 = .ok (.ifCond .eq 27, 3) := by decide +kernel
theorem dX12_isOwn_58 : decode cX12_isOwn 58 = .ok (.lload_n 1, 1) := by decide +kernel
theorem dX12_isOwn_59 : decode cX12_isOwn 59 = .ok (.ldc2_w 310, 3) := by decide +kernel
theorem dX12_isOwn_62 : decode cX12_isOwn 62 = .ok (.lcmp, 1) := by decide +kernel
theorem dX12_isOwn_63 : decode cX12_isOwn 63 = .ok (.ifCond .eq 19, 3) := by decide +kernel
theorem dX12_isOwn_66 : decode cX12_isOwn 66 = .ok (.lload_n 1, 1) := by decide +kernel
theorem dX12_isOwn_67 : decode cX12_isOwn 67 = .ok (.ldc2_w 312, 3) := by decide +kernel
theorem dX12_isOwn_70 : decode cX12_isOwn 70 = .ok (.lcmp, 1) := by decide +kernel
theorem dX12_isOwn_71 : decode cX12_isOwn 71 = .ok (.ifCond .eq 11, 3) := by decide +kernel
theorem dX12_isOwn_74 : decode cX12_isOwn 74 = .ok (.lload_n 1, 1) := by decide +kernel
theorem dX12_isOwn_75 : decode cX12_isOwn 75 = .ok (.ldc2_w 314, 3) := by decide +kernel
theorem dX12_isOwn_78 : decode cX12_isOwn 78 = .ok (.lcmp, 1) := by decide +kernel
theorem dX12_isOwn_79 : decode cX12_isOwn 79 = .ok (.ifCond .ne 5, 3) := by decide +kernel
theorem dX12_isOwn_82 : decode cX12_isOwn 82 = .ok (.iconst 1, 1) := by decide +kernel
theorem dX12_isOwn_83 : decode cX12_isOwn 83 = .ok (.ireturn, 1) := by decide +kernel
theorem dX12_isOwn_84 : decode cX12_isOwn 84 = .ok (.lload_n 1, 1) := by decide +kernel
theorem dX12_isOwn_85 : decode cX12_isOwn 85 = .ok (.ldc2_w 316, 3) := by decide +kernel
theorem dX12_isOwn_88 : decode cX12_isOwn 88 = .ok (.lcmp, 1) := by decide +kernel
theorem dX12_isOwn_89 : decode cX12_isOwn 89 = .ok (.ifCond .eq 35, 3) := by decide +kernel
theorem dX12_isOwn_92 : decode cX12_isOwn 92 = .ok (.lload_n 1, 1) := by decide +kernel
theorem dX12_isOwn_93 : decode cX12_isOwn 93 = .ok (.ldc2_w 318, 3) := by decide +kernel
theorem dX12_isOwn_96 : decode cX12_isOwn 96 = .ok (.lcmp, 1) := by decide +kernel
theorem dX12_isOwn_97 : decode cX12_isOwn 97 = .ok (.ifCond .eq 27, 3) := by decide +kernel
theorem dX12_isOwn_100 : decode cX12_isOwn 100 = .ok (.lload_n 1, 1) := by decide +kernel
theorem dX12_isOwn_101 : decode cX12_isOwn 101 = .ok (.ldc2_w 320, 3) := by decide +kernel
theorem dX12_isOwn_104 : decode cX12_isOwn 104 = .ok (.lcmp, 1) := by decide +kernel
theorem dX12_isOwn_105 : decode cX12_isOwn 105 = .ok (.ifCond .eq 19, 3) := by decide +kernel
theorem dX12_isOwn_108 : decode cX12_isOwn 108 = .ok (.lload_n 1, 1) := by decide +kernel
theorem dX12_isOwn_109 : decode cX12_isOwn 109 = .ok (.ldc2_w 322, 3) := by decide +kernel
theorem dX12_isOwn_112 : decode cX12_isOwn 112 = .ok (.lcmp, 1) := by decide +kernel
theorem dX12_isOwn_113 : decode cX12_isOwn 113 = .ok (.ifCond .eq 11, 3) := by decide +kernel
theorem dX12_isOwn_116 : decode cX12_isOwn 116 = .ok (.lload_n 1, 1) := by decide +kernel
theorem dX12_isOwn_117 : decode cX12_isOwn 117 = .ok (.ldc2_w 324, 3) := by decide +kernel
theorem dX12_isOwn_120 : decode cX12_isOwn 120 = .ok (.lcmp, 1) := by decide +kernel
theorem dX12_isOwn_121 : decode cX12_isOwn 121 = .ok (.ifCond .ne 5, 3) := by decide +kernel
theorem dX12_isOwn_124 : decode cX12_isOwn 124 = .ok (.iconst 1, 1) := by decide +kernel
theorem dX12_isOwn_125 : decode cX12_isOwn 125 = .ok (.ireturn, 1) := by decide +kernel
theorem dX12_isOwn_126 : decode cX12_isOwn 126 = .ok (.lload_n 1, 1) := by decide +kernel
theorem dX12_isOwn_127 : decode cX12_isOwn 127 = .ok (.ldc2_w 326, 3) := by decide +kernel
theorem dX12_isOwn_130 : decode cX12_isOwn 130 = .ok (.lcmp, 1) := by decide +kernel
theorem dX12_isOwn_131 : decode cX12_isOwn 131 = .ok (.ifCond .eq 35, 3) := by decide +kernel
theorem dX12_isOwn_134 : decode cX12_isOwn 134 = .ok (.lload_n 1, 1) := by decide +kernel
theorem dX12_isOwn_135 : decode cX12_isOwn 135 = .ok (.ldc2_w 328, 3) := by decide +kernel
theorem dX12_isOwn_138 : decode cX12_isOwn 138 = .ok (.lcmp, 1) := by decide +kernel
theorem dX12_isOwn_139 : decode cX12_isOwn 139 = .ok (.ifCond .eq 27, 3) := by decide +kernel
theorem dX12_isOwn_142 : decode cX12_isOwn 142 = .ok (.lload_n 1, 1) := by decide +kernel
theorem dX12_isOwn_143 : decode cX12_isOwn 143 = .ok (.ldc2_w 330, 3) := by decide +kernel
theorem dX12_isOwn_146 : decode cX12_isOwn 146 = .ok (.lcmp, 1) := by decide +kernel
theorem dX12_isOwn_147 : decode cX12_isOwn 147 = .ok (.ifCond .eq 19, 3) := by decide +kernel
theorem dX12_isOwn_150 : decode cX12_isOwn 150 = .ok (.lload_n 1, 1) := by decide +kernel
theorem dX12_isOwn_151 : decode cX12_isOwn 151 = .ok (.ldc2_w 332, 3) := by decide +kernel
theorem dX12_isOwn_154 : decode cX12_isOwn 154 = .ok (.lcmp, 1) := by decide +kernel
theorem dX12_isOwn_155 : decode cX12_isOwn 155 = .ok (.ifCond .eq 11, 3) := by decide +kernel
theorem dX12_isOwn_158 : decode cX12_isOwn 158 = .ok (.lload_n 1, 1) := by decide +kernel
theorem dX12_isOwn_159 : decode cX12_isOwn 159 = .ok (.ldc2_w 334, 3) := by decide +kernel
theorem dX12_isOwn_162 : decode cX12_isOwn 162 = .ok (.lcmp, 1) := by decide +kernel
theorem dX12_isOwn_163 : decode cX12_isOwn 163 = .ok (.ifCond .ne 5, 3) := by decide +kernel
theorem dX12_isOwn_166 : decode cX12_isOwn 166 = .ok (.iconst 1, 1) := by decide +kernel
theorem dX12_isOwn_167 : decode cX12_isOwn 167 = .ok (.ireturn, 1) := by decide +kernel
theorem dX12_isOwn_168 : decode cX12_isOwn 168 = .ok (.lload_n 1, 1) := by decide +kernel
theorem dX12_isOwn_169 : decode cX12_isOwn 169 = .ok (.ldc2_w 336, 3) := by decide +kernel
theorem dX12_isOwn_172 : decode cX12_isOwn 172 = .ok (.lcmp, 1) := by decide +kernel
theorem dX12_isOwn_173 : decode cX12_isOwn 173 = .ok (.ifCond .eq 35, 3) := by decide +kernel
theorem dX12_isOwn_176 : decode cX12_isOwn 176 = .ok (.lload_n 1, 1) := by decide +kernel
theorem dX12_isOwn_177 : decode cX12_isOwn 177 = .ok (.ldc2_w 338, 3) := by decide +kernel
theorem dX12_isOwn_180 : decode cX12_isOwn 180 = .ok (.lcmp, 1) := by decide +kernel
theorem dX12_isOwn_181 : decode cX12_isOwn 181 = .ok (.ifCond .eq 27, 3) := by decide +kernel
theorem dX12_isOwn_184 : decode cX12_isOwn 184 = .ok (.lload_n 1, 1) := by decide +kernel
theorem dX12_isOwn_185 : decode cX12_isOwn 185 = .ok (.ldc2_w 340, 3) := by decide +kernel
theorem dX12_isOwn_188 : decode cX12_isOwn 188 = .ok (.lcmp, 1) := by decide +kernel
theorem dX12_isOwn_189 : decode cX12_isOwn 189 = .ok (.ifCond .eq 19, 3) := by decide +kernel
theorem dX12_isOwn_192 : decode cX12_isOwn 192 = .ok (.lload_n 1, 1) := by decide +kernel
theorem dX12_isOwn_193 : decode cX12_isOwn 193 = .ok (.ldc2_w 342, 3) := by decide +kernel
theorem dX12_isOwn_196 : decode cX12_isOwn 196 = .ok (.lcmp, 1) := by decide +kernel
theorem dX12_isOwn_197 : decode cX12_isOwn 197 = .ok (.ifCond .eq 11, 3) := by decide +kernel
theorem dX12_isOwn_200 : decode cX12_isOwn 200 = .ok (.lload_n 1, 1) := by decide +kernel
theorem dX12_isOwn_201 : decode cX12_isOwn 201 = .ok (.ldc2_w 344, 3) := by decide +kernel
theorem dX12_isOwn_204 : decode cX12_isOwn 204 = .ok (.lcmp, 1) := by decide +kernel
theorem dX12_isOwn_205 : decode cX12_isOwn 205 = .ok (.ifCond .ne 5, 3) := by decide +kernel
theorem dX12_isOwn_208 : decode cX12_isOwn 208 = .ok (.iconst 1, 1) := by decide +kernel
theorem dX12_isOwn_209 : decode cX12_isOwn 209 = .ok (.ireturn, 1) := by decide +kernel
theorem dX12_isOwn_210 : decode cX12_isOwn 210 = .ok (.lload_n 1, 1) := by decide +kernel
theorem dX12_isOwn_211 : decode cX12_isOwn 211 = .ok (.ldc2_w 346, 3) := by decide +kernel
theorem dX12_isOwn_214 : decode cX12_isOwn 214 = .ok (.lcmp, 1) := by decide +kernel
theorem dX12_isOwn_215 : decode cX12_isOwn 215 = .ok (.ifCond .ne 5, 3) := by decide +kernel
theorem dX12_isOwn_218 : decode cX12_isOwn 218 = .ok (.iconst 1, 1) := by decide +kernel
theorem dX12_isOwn_219 : decode cX12_isOwn 219 = .ok (.ireturn, 1) := by decide +kernel
theorem dX12_isOwn_220 : decode cX12_isOwn 220 = .ok (.iconst 0, 1) := by decide +kernel
theorem dX12_isOwn_221 : decode cX12_isOwn 221 = .ok (.ireturn, 1) := by decide +kernel
theorem dX12_fault_0 : decode cX12_fault 0 = .ok (.iload_n 1, 1) := by decide +kernel
theorem dX12_fault_1 : decode cX12_fault 1 = .ok (.ifCond .ne 10, 3) := by decide +kernel
theorem dX12_fault_4 : decode cX12_fault 4 = .ok (.aload_n 0, 1) := by decide +kernel
theorem dX12_fault_5 : decode cX12_fault 5 = .ok (.getfield 42, 3) := by decide +kernel
theorem dX12_fault_8 : decode cX12_fault 8 = .ok (.goto 16, 3) := by decide +kernel
theorem dX12_fault_11 : decode cX12_fault 11 = .ok (.iload_n 1, 1) := by decide +kernel
theorem dX12_fault_12 : decode cX12_fault 12 = .ok (.iconst 1, 1) := by decide +kernel
theorem dX12_fault_13 : decode cX12_fault 13 = .ok (.if_icmp .ne 10, 3) := by decide +kernel
theorem dX12_fault_16 : decode cX12_fault 16 = .ok (.aload_n 0, 1) := by decide +kernel
theorem dX12_fault_17 : decode cX12_fault 17 = .ok (.getfield 45, 3) := by decide +kernel
theorem dX12_fault_20 : decode cX12_fault 20 = .ok (.goto 4, 3) := by decide +kernel
theorem dX12_fault_23 : decode cX12_fault 23 = .ok (.iconst (-1), 1) := by decide +kernel
theorem dX12_fault_24 : decode cX12_fault 24 = .ok (.ireturn, 1) := by decide +kernel
theorem dX12_refuses_0 : decode cX12_refuses 0 = .ok (.aload_n 0, 1) := by decide +kernel
theorem dX12_refuses_1 : decode cX12_refuses 1 = .ok (.getfield 189, 3) := by decide +kernel
theorem dX12_refuses_4 : decode cX12_refuses 4 = .ok (.iload_n 1, 1) := by decide +kernel
theorem dX12_refuses_5 : decode cX12_refuses 5 = .ok (.dup2, 1) := by decide +kernel
theorem dX12_refuses_6 : decode cX12_refuses 6 = .ok (.iaload, 1) := by decide +kernel
theorem dX12_refuses_7 : decode cX12_refuses 7 = .ok (.iconst 1, 1) := by decide +kernel
theorem dX12_refuses_8 : decode cX12_refuses 8 = .ok (.iadd, 1) := by decide +kernel
theorem dX12_refuses_9 : decode cX12_refuses 9 = .ok (.iastore, 1) := by decide +kernel
theorem dX12_refuses_10 : decode cX12_refuses 10 = .ok (.iconst (-1), 1) := by decide +kernel
theorem dX12_refuses_11 : decode cX12_refuses 11 = .ok (.ireturn, 1) := by decide +kernel
theorem dX12_status_0 : decode cX12_status 0 = .ok (.iload_n 1, 1) := by decide +kernel
theorem dX12_status_1 : decode cX12_status 1 = .ok (.iconst 0, 1) := by decide +kernel
theorem dX12_status_2 : decode cX12_status 2 = .ok (.iconst 5, 1) := by decide +kernel
theorem dX12_status_3 : decode cX12_status 3 = .ok (.invokestatic 352, 3) := by decide +kernel
theorem dX12_status_6 : decode cX12_status 6 = .ok (.ifCond .eq 12, 3) := by decide +kernel
theorem dX12_status_9 : decode cX12_status 9 = .ok (.aload_n 0, 1) := by decide +kernel
theorem dX12_status_10 : decode cX12_status 10 = .ok (.getfield 189, 3) := by decide +kernel
theorem dX12_status_13 : decode cX12_status 13 = .ok (.iload_n 1, 1) := by decide +kernel
theorem dX12_status_14 : decode cX12_status 14 = .ok (.iaload, 1) := by decide +kernel
theorem dX12_status_15 : decode cX12_status 15 = .ok (.goto 4, 3) := by decide +kernel
theorem dX12_status_18 : decode cX12_status 18 = .ok (.iconst (-1), 1) := by decide +kernel
theorem dX12_status_19 : decode cX12_status 19 = .ok (.ireturn, 1) := by decide +kernel
theorem dX12_bounded_0 : decode cX12_bounded 0 = .ok (.lload_n 0, 1) := by decide +kernel
theorem dX12_bounded_1 : decode cX12_bounded 1 = .ok (.ldc2_w 468, 3) := by decide +kernel
theorem dX12_bounded_4 : decode cX12_bounded 4 = .ok (.lcmp, 1) := by decide +kernel
theorem dX12_bounded_5 : decode cX12_bounded 5 = .ok (.ifCond .le 9, 3) := by decide +kernel
theorem dX12_bounded_8 : decode cX12_bounded 8 = .ok (.ldc2_w 468, 3) := by decide +kernel
theorem dX12_bounded_11 : decode cX12_bounded 11 = .ok (.goto 18, 3) := by decide +kernel
theorem dX12_bounded_14 : decode cX12_bounded 14 = .ok (.lload_n 0, 1) := by decide +kernel
theorem dX12_bounded_15 : decode cX12_bounded 15 = .ok (.ldc2_w 470, 3) := by decide +kernel
theorem dX12_bounded_18 : decode cX12_bounded 18 = .ok (.lcmp, 1) := by decide +kernel
theorem dX12_bounded_19 : decode cX12_bounded 19 = .ok (.ifCond .ge 9, 3) := by decide +kernel
theorem dX12_bounded_22 : decode cX12_bounded 22 = .ok (.ldc2_w 470, 3) := by decide +kernel
theorem dX12_bounded_25 : decode cX12_bounded 25 = .ok (.goto 4, 3) := by decide +kernel
theorem dX12_bounded_28 : decode cX12_bounded 28 = .ok (.lload_n 0, 1) := by decide +kernel
theorem dX12_bounded_29 : decode cX12_bounded 29 = .ok (.lreturn, 1) := by decide +kernel
theorem dX12_over_0 : decode cX12_over 0 = .ok (.lload_n 2, 1) := by decide +kernel
theorem dX12_over_1 : decode cX12_over 1 = .ok (.lconst 0, 1) := by decide +kernel
theorem dX12_over_2 : decode cX12_over 2 = .ok (.lcmp, 1) := by decide +kernel
theorem dX12_over_3 : decode cX12_over 3 = .ok (.ifCond .ne 5, 3) := by decide +kernel
theorem dX12_over_6 : decode cX12_over 6 = .ok (.lconst 0, 1) := by decide +kernel
theorem dX12_over_7 : decode cX12_over 7 = .ok (.lreturn, 1) := by decide +kernel
theorem dX12_over_8 : decode cX12_over 8 = .ok (.lload_n 0, 1) := by decide +kernel
theorem dX12_over_9 : decode cX12_over 9 = .ok (.lload_n 2, 1) := by decide +kernel
theorem dX12_over_10 : decode cX12_over 10 = .ok (.ldiv, 1) := by decide +kernel
theorem dX12_over_11 : decode cX12_over 11 = .ok (.lstore 4, 2) := by decide +kernel
theorem dX12_over_13 : decode cX12_over 13 = .ok (.lload_n 0, 1) := by decide +kernel
theorem dX12_over_14 : decode cX12_over 14 = .ok (.lload_n 2, 1) := by decide +kernel
theorem dX12_over_15 : decode cX12_over 15 = .ok (.lrem, 1) := by decide +kernel
theorem dX12_over_16 : decode cX12_over 16 = .ok (.lconst 0, 1) := by decide +kernel
theorem dX12_over_17 : decode cX12_over 17 = .ok (.lcmp, 1) := by decide +kernel
theorem dX12_over_18 : decode cX12_over 18 = .ok (.ifCond .eq 35, 3) := by decide +kernel
theorem dX12_over_21 : decode cX12_over 21 = .ok (.lload_n 0, 1) := by decide +kernel
theorem dX12_over_22 : decode cX12_over 22 = .ok (.lconst 0, 1) := by decide +kernel
theorem dX12_over_23 : decode cX12_over 23 = .ok (.lcmp, 1) := by decide +kernel
theorem dX12_over_24 : decode cX12_over 24 = .ok (.ifCond .ge 7, 3) := by decide +kernel
theorem dX12_over_27 : decode cX12_over 27 = .ok (.iconst 1, 1) := by decide +kernel
theorem dX12_over_28 : decode cX12_over 28 = .ok (.goto 4, 3) := by decide +kernel
theorem dX12_over_31 : decode cX12_over 31 = .ok (.iconst 0, 1) := by decide +kernel
theorem dX12_over_32 : decode cX12_over 32 = .ok (.lload_n 2, 1) := by decide +kernel
theorem dX12_over_33 : decode cX12_over 33 = .ok (.lconst 0, 1) := by decide +kernel
theorem dX12_over_34 : decode cX12_over 34 = .ok (.lcmp, 1) := by decide +kernel
theorem dX12_over_35 : decode cX12_over 35 = .ok (.ifCond .ge 7, 3) := by decide +kernel
theorem dX12_over_38 : decode cX12_over 38 = .ok (.iconst 1, 1) := by decide +kernel
theorem dX12_over_39 : decode cX12_over 39 = .ok (.goto 4, 3) := by decide +kernel
theorem dX12_over_42 : decode cX12_over 42 = .ok (.iconst 0, 1) := by decide +kernel
theorem dX12_over_43 : decode cX12_over 43 = .ok (.if_icmp .eq 10, 3) := by decide +kernel
theorem dX12_over_46 : decode cX12_over 46 = .ok (.lload 4, 2) := by decide +kernel
theorem dX12_over_48 : decode cX12_over 48 = .ok (.lconst 1, 1) := by decide +kernel
theorem dX12_over_49 : decode cX12_over 49 = .ok (.lsub, 1) := by decide +kernel
theorem dX12_over_50 : decode cX12_over 50 = .ok (.goto 5, 3) := by decide +kernel
theorem dX12_over_53 : decode cX12_over 53 = .ok (.lload 4, 2) := by decide +kernel
theorem dX12_over_55 : decode cX12_over 55 = .ok (.lreturn, 1) := by decide +kernel
theorem dX12_made_0 : decode cX12_made 0 = .ok (.iload_n 0, 1) := by decide +kernel
theorem dX12_made_1 : decode cX12_made 1 = .ok (.tableswitch 170 10 20 #[59, 66, 73, 80, 86, 106, 118, 130, 142, 154, 166], 59) := by decide +kernel
theorem dX12_made_60 : decode cX12_made 60 = .ok (.lload_n 1, 1) := by decide +kernel
theorem dX12_made_61 : decode cX12_made 61 = .ok (.lload_n 3, 1) := by decide +kernel
theorem dX12_made_62 : decode cX12_made 62 = .ok (.ladd, 1) := by decide +kernel
theorem dX12_made_63 : decode cX12_made 63 = .ok (.invokestatic 472, 3) := by decide +kernel
theorem dX12_made_66 : decode cX12_made 66 = .ok (.lreturn, 1) := by decide +kernel
theorem dX12_made_67 : decode cX12_made 67 = .ok (.lload_n 1, 1) := by decide +kernel
theorem dX12_made_68 : decode cX12_made 68 = .ok (.lload_n 3, 1) := by decide +kernel
theorem dX12_made_69 : decode cX12_made 69 = .ok (.lsub, 1) := by decide +kernel
theorem dX12_made_70 : decode cX12_made 70 = .ok (.invokestatic 472, 3) := by decide +kernel
theorem dX12_made_73 : decode cX12_made 73 = .ok (.lreturn, 1) := by decide +kernel
theorem dX12_made_74 : decode cX12_made 74 = .ok (.lload_n 1, 1) := by decide +kernel
theorem dX12_made_75 : decode cX12_made 75 = .ok (.lload_n 3, 1) := by decide +kernel
theorem dX12_made_76 : decode cX12_made 76 = .ok (.lmul, 1) := by decide +kernel
theorem dX12_made_77 : decode cX12_made 77 = .ok (.invokestatic 472, 3) := by decide +kernel
theorem dX12_made_80 : decode cX12_made 80 = .ok (.lreturn, 1) := by decide +kernel
theorem dX12_made_81 : decode cX12_made 81 = .ok (.lload_n 1, 1) := by decide +kernel
theorem dX12_made_82 : decode cX12_made 82 = .ok (.lload_n 3, 1) := by decide +kernel
theorem dX12_made_83 : decode cX12_made 83 = .ok (.invokestatic 476, 3) := by decide +kernel
theorem dX12_made_86 : decode cX12_made 86 = .ok (.lreturn, 1) := by decide +kernel
theorem dX12_made_87 : decode cX12_made 87 = .ok (.lload_n 3, 1) := by decide +kernel
theorem dX12_made_88 : decode cX12_made 88 = .ok (.lconst 0, 1) := by decide +kernel
theorem dX12_made_89 : decode cX12_made 89 = .ok (.lcmp, 1) := by decide +kernel
theorem dX12_made_90 : decode cX12_made 90 = .ok (.ifCond .ne 7, 3) := by decide +kernel
theorem dX12_made_93 : decode cX12_made 93 = .ok (.lconst 0, 1) := by decide +kernel
theorem dX12_made_94 : decode cX12_made 94 = .ok (.goto 12, 3) := by decide +kernel
theorem dX12_made_97 : decode cX12_made 97 = .ok (.lload_n 1, 1) := by decide +kernel
theorem dX12_made_98 : decode cX12_made 98 = .ok (.lload_n 3, 1) := by decide +kernel
theorem dX12_made_99 : decode cX12_made 99 = .ok (.lload_n 1, 1) := by decide +kernel
theorem dX12_made_100 : decode cX12_made 100 = .ok (.lload_n 3, 1) := by decide +kernel
theorem dX12_made_101 : decode cX12_made 101 = .ok (.invokestatic 476, 3) := by decide +kernel
theorem dX12_made_104 : decode cX12_made 104 = .ok (.lmul, 1) := by decide +kernel
theorem dX12_made_105 : decode cX12_made 105 = .ok (.lsub, 1) := by decide +kernel
theorem dX12_made_106 : decode cX12_made 106 = .ok (.lreturn, 1) := by decide +kernel
theorem dX12_made_107 : decode cX12_made 107 = .ok (.lload_n 1, 1) := by decide +kernel
theorem dX12_made_108 : decode cX12_made 108 = .ok (.lload_n 3, 1) := by decide +kernel
theorem dX12_made_109 : decode cX12_made 109 = .ok (.lcmp, 1) := by decide +kernel
theorem dX12_made_110 : decode cX12_made 110 = .ok (.ifCond .ge 7, 3) := by decide +kernel
theorem dX12_made_113 : decode cX12_made 113 = .ok (.lload_n 1, 1) := by decide +kernel
theorem dX12_made_114 : decode cX12_made 114 = .ok (.goto 4, 3) := by decide +kernel
theorem dX12_made_117 : decode cX12_made 117 = .ok (.lload_n 3, 1) := by decide +kernel
theorem dX12_made_118 : decode cX12_made 118 = .ok (.lreturn, 1) := by decide +kernel
theorem dX12_made_119 : decode cX12_made 119 = .ok (.lload_n 1, 1) := by decide +kernel
theorem dX12_made_120 : decode cX12_made 120 = .ok (.lload_n 3, 1) := by decide +kernel
theorem dX12_made_121 : decode cX12_made 121 = .ok (.lcmp, 1) := by decide +kernel
theorem dX12_made_122 : decode cX12_made 122 = .ok (.ifCond .le 7, 3) := by decide +kernel
theorem dX12_made_125 : decode cX12_made 125 = .ok (.lload_n 1, 1) := by decide +kernel
theorem dX12_made_126 : decode cX12_made 126 = .ok (.goto 4, 3) := by decide +kernel
theorem dX12_made_129 : decode cX12_made 129 = .ok (.lload_n 3, 1) := by decide +kernel
theorem dX12_made_130 : decode cX12_made 130 = .ok (.lreturn, 1) := by decide +kernel
theorem dX12_made_131 : decode cX12_made 131 = .ok (.lload_n 1, 1) := by decide +kernel
theorem dX12_made_132 : decode cX12_made 132 = .ok (.lload_n 3, 1) := by decide +kernel
theorem dX12_made_133 : decode cX12_made 133 = .ok (.lcmp, 1) := by decide +kernel
theorem dX12_made_134 : decode cX12_made 134 = .ok (.ifCond .ge 7, 3) := by decide +kernel
theorem dX12_made_137 : decode cX12_made 137 = .ok (.lconst 1, 1) := by decide +kernel
theorem dX12_made_138 : decode cX12_made 138 = .ok (.goto 4, 3) := by decide +kernel
theorem dX12_made_141 : decode cX12_made 141 = .ok (.lconst 0, 1) := by decide +kernel
theorem dX12_made_142 : decode cX12_made 142 = .ok (.lreturn, 1) := by decide +kernel
theorem dX12_made_143 : decode cX12_made 143 = .ok (.lload_n 1, 1) := by decide +kernel
theorem dX12_made_144 : decode cX12_made 144 = .ok (.lload_n 3, 1) := by decide +kernel
theorem dX12_made_145 : decode cX12_made 145 = .ok (.lcmp, 1) := by decide +kernel
theorem dX12_made_146 : decode cX12_made 146 = .ok (.ifCond .le 7, 3) := by decide +kernel
theorem dX12_made_149 : decode cX12_made 149 = .ok (.lconst 1, 1) := by decide +kernel
theorem dX12_made_150 : decode cX12_made 150 = .ok (.goto 4, 3) := by decide +kernel
theorem dX12_made_153 : decode cX12_made 153 = .ok (.lconst 0, 1) := by decide +kernel
theorem dX12_made_154 : decode cX12_made 154 = .ok (.lreturn, 1) := by decide +kernel
theorem dX12_made_155 : decode cX12_made 155 = .ok (.lload_n 1, 1) := by decide +kernel
theorem dX12_made_156 : decode cX12_made 156 = .ok (.lload_n 3, 1) := by decide +kernel
theorem dX12_made_157 : decode cX12_made 157 = .ok (.lcmp, 1) := by decide +kernel
theorem dX12_made_158 : decode cX12_made 158 = .ok (.ifCond .ne 7, 3) := by decide +kernel
theorem dX12_made_161 : decode cX12_made 161 = .ok (.lconst 1, 1) := by decide +kernel
theorem dX12_made_162 : decode cX12_made 162 = .ok (.goto 4, 3) := by decide +kernel
theorem dX12_made_165 : decode cX12_made 165 = .ok (.lconst 0, 1) := by decide +kernel
theorem dX12_made_166 : decode cX12_made 166 = .ok (.lreturn, 1) := by decide +kernel
theorem dX12_made_167 : decode cX12_made 167 = .ok (.lload_n 1, 1) := by decide +kernel
theorem dX12_made_168 : decode cX12_made 168 = .ok (.lload_n 3, 1) := by decide +kernel
theorem dX12_made_169 : decode cX12_made 169 = .ok (.lmul, 1) := by decide +kernel
theorem dX12_made_170 : decode cX12_made 170 = .ok (.lreturn, 1) := by decide +kernel
theorem dX12_made_171 : decode cX12_made 171 = .ok (.lload_n 1, 1) := by decide +kernel
theorem dX12_made_172 : decode cX12_made 172 = .ok (.lload_n 3, 1) := by decide +kernel
theorem dX12_made_173 : decode cX12_made 173 = .ok (.ladd, 1) := by decide +kernel
theorem dX12_made_174 : decode cX12_made 174 = .ok (.lconst 0, 1) := by decide +kernel
theorem dX12_made_175 : decode cX12_made 175 = .ok (.lcmp, 1) := by decide +kernel
theorem dX12_made_176 : decode cX12_made 176 = .ok (.ifCond .le 7, 3) := by decide +kernel
theorem dX12_made_179 : decode cX12_made 179 = .ok (.lconst 1, 1) := by decide +kernel
theorem dX12_made_180 : decode cX12_made 180 = .ok (.goto 4, 3) := by decide +kernel
theorem dX12_made_183 : decode cX12_made 183 = .ok (.lconst 0, 1) := by decide +kernel
theorem dX12_made_184 : decode cX12_made 184 = .ok (.lreturn, 1) := by decide +kernel
theorem dX12_isPlace_0 : decode cX12_isPlace 0 = .ok (.iload_n 1, 1) := by decide +kernel
theorem dX12_isPlace_1 : decode cX12_isPlace 1 = .ok (.iconst 0, 1) := by decide +kernel
theorem dX12_isPlace_2 : decode cX12_isPlace 2 = .ok (.aload_n 0, 1) := by decide +kernel
theorem dX12_isPlace_3 : decode cX12_isPlace 3 = .ok (.getfield 51, 3) := by decide +kernel
theorem dX12_isPlace_6 : decode cX12_isPlace 6 = .ok (.aload_n 0, 1) := by decide +kernel
theorem dX12_isPlace_7 : decode cX12_isPlace 7 = .ok (.getfield 48, 3) := by decide +kernel
theorem dX12_isPlace_10 : decode cX12_isPlace 10 = .ok (.iaload, 1) := by decide +kernel
theorem dX12_isPlace_11 : decode cX12_isPlace 11 = .ok (.iconst 1, 1) := by decide +kernel
theorem dX12_isPlace_12 : decode cX12_isPlace 12 = .ok (.isub, 1) := by decide +kernel
theorem dX12_isPlace_13 : decode cX12_isPlace 13 = .ok (.invokestatic 352, 3) := by decide +kernel
theorem dX12_isPlace_16 : decode cX12_isPlace 16 = .ok (.ireturn, 1) := by decide +kernel
theorem dX12_isDoor_0 : decode cX12_isDoor 0 = .ok (.iload_n 1, 1) := by decide +kernel
theorem dX12_isDoor_1 : decode cX12_isDoor 1 = .ok (.iconst 0, 1) := by decide +kernel
theorem dX12_isDoor_2 : decode cX12_isDoor 2 = .ok (.aload_n 0, 1) := by decide +kernel
theorem dX12_isDoor_3 : decode cX12_isDoor 3 = .ok (.getfield 58, 3) := by decide +kernel
theorem dX12_isDoor_6 : decode cX12_isDoor 6 = .ok (.aload_n 0, 1) := by decide +kernel
theorem dX12_isDoor_7 : decode cX12_isDoor 7 = .ok (.getfield 48, 3) := by decide +kernel
theorem dX12_isDoor_10 : decode cX12_isDoor 10 = .ok (.iaload, 1) := by decide +kernel
theorem dX12_isDoor_11 : decode cX12_isDoor 11 = .ok (.iconst 1, 1) := by decide +kernel
theorem dX12_isDoor_12 : decode cX12_isDoor 12 = .ok (.isub, 1) := by decide +kernel
theorem dX12_isDoor_13 : decode cX12_isDoor 13 = .ok (.invokestatic 352, 3) := by decide +kernel
theorem dX12_isDoor_16 : decode cX12_isDoor 16 = .ok (.ireturn, 1) := by decide +kernel
theorem dX12_isKey_0 : decode cX12_isKey 0 = .ok (.iload_n 1, 1) := by decide +kernel
theorem dX12_isKey_1 : decode cX12_isKey 1 = .ok (.iconst 0, 1) := by decide +kernel
theorem dX12_isKey_2 : decode cX12_isKey 2 = .ok (.aload_n 0, 1) := by decide +kernel
theorem dX12_isKey_3 : decode cX12_isKey 3 = .ok (.getfield 80, 3) := by decide +kernel
theorem dX12_isKey_6 : decode cX12_isKey 6 = .ok (.aload_n 0, 1) := by decide +kernel
theorem dX12_isKey_7 : decode cX12_isKey 7 = .ok (.getfield 48, 3) := by decide +kernel
theorem dX12_isKey_10 : decode cX12_isKey 10 = .ok (.iaload, 1) := by decide +kernel
theorem dX12_isKey_11 : decode cX12_isKey 11 = .ok (.iconst 1, 1) := by decide +kernel
theorem dX12_isKey_12 : decode cX12_isKey 12 = .ok (.isub, 1) := by decide +kernel
theorem dX12_isKey_13 : decode cX12_isKey 13 = .ok (.invokestatic 352, 3) := by decide +kernel
theorem dX12_isKey_16 : decode cX12_isKey 16 = .ok (.ireturn, 1) := by decide +kernel
theorem dX12_isPerson_0 : decode cX12_isPerson 0 = .ok (.iload_n 1, 1) := by decide +kernel
theorem dX12_isPerson_1 : decode cX12_isPerson 1 = .ok (.iconst 0, 1) := by decide +kernel
theorem dX12_isPerson_2 : decode cX12_isPerson 2 = .ok (.aload_n 0, 1) := by decide +kernel
theorem dX12_isPerson_3 : decode cX12_isPerson 3 = .ok (.getfield 95, 3) := by decide +kernel
theorem dX12_isPerson_6 : decode cX12_isPerson 6 = .ok (.aload_n 0, 1) := by decide +kernel
theorem dX12_isPerson_7 : decode cX12_isPerson 7 = .ok (.getfield 48, 3) := by decide +kernel
theorem dX12_isPerson_10 : decode cX12_isPerson 10 = .ok (.iaload, 1) := by decide +kernel
theorem dX12_isPerson_11 : decode cX12_isPerson 11 = .ok (.iconst 1, 1) := by decide +kernel
theorem dX12_isPerson_12 : decode cX12_isPerson 12 = .ok (.isub, 1) := by decide +kernel
theorem dX12_isPerson_13 : decode cX12_isPerson 13 = .ok (.invokestatic 352, 3) := by decide +kernel
theorem dX12_isPerson_16 : decode cX12_isPerson 16 = .ok (.ireturn, 1) := by decide +kernel
theorem dX12_key4_0 : decode cX12_key4 0 = .ok (.iconst 4, 1) := by decide +kernel
theorem dX12_key4_1 : decode cX12_key4 1 = .ok (.aload_n 0, 1) := by decide +kernel
theorem dX12_key4_2 : decode cX12_key4 2 = .ok (.getfield 48, 3) := by decide +kernel
theorem dX12_key4_5 : decode cX12_key4 5 = .ok (.imul, 1) := by decide +kernel
theorem dX12_key4_6 : decode cX12_key4 6 = .ok (.iload_n 1, 1) := by decide +kernel
theorem dX12_key4_7 : decode cX12_key4 7 = .ok (.iadd, 1) := by decide +kernel
theorem dX12_key4_8 : decode cX12_key4 8 = .ok (.ireturn, 1) := by decide +kernel
theorem dX12_door10_0 : decode cX12_door10 0 = .ok (.bipush 10, 2) := by decide +kernel
theorem dX12_door10_2 : decode cX12_door10 2 = .ok (.aload_n 0, 1) := by decide +kernel
theorem dX12_door10_3 : decode cX12_door10 3 = .ok (.getfield 48, 3) := by decide +kernel
theorem dX12_door10_6 : decode cX12_door10 6 = .ok (.imul, 1) := by decide +kernel
theorem dX12_door10_7 : decode cX12_door10 7 = .ok (.iload_n 1, 1) := by decide +kernel
theorem dX12_door10_8 : decode cX12_door10 8 = .ok (.iadd, 1) := by decide +kernel
theorem dX12_door10_9 : decode cX12_door10 9 = .ok (.ireturn, 1) := by decide +kernel
theorem dX12_placeOf_0 : decode cX12_placeOf 0 = .ok (.aload_n 0, 1) := by decide +kernel
theorem dX12_placeOf_1 : decode cX12_placeOf 1 = .ok (.getfield 101, 3) := by decide +kernel
theorem dX12_placeOf_4 : decode cX12_placeOf 4 = .ok (.iconst 3, 1) := by decide +kernel
theorem dX12_placeOf_5 : decode cX12_placeOf 5 = .ok (.aload_n 0, 1) := by decide +kernel
theorem dX12_placeOf_6 : decode cX12_placeOf 6 = .ok (.getfield 48, 3) := by decide +kernel
theorem dX12_placeOf_9 : decode cX12_placeOf 9 = .ok (.imul, 1) := by decide +kernel
theorem dX12_placeOf_10 : decode cX12_placeOf 10 = .ok (.iload_n 1, 1) := by decide +kernel
theorem dX12_placeOf_11 : decode cX12_placeOf 11 = .ok (.iadd, 1) := by decide +kernel
theorem dX12_placeOf_12 : decode cX12_placeOf 12 = .ok (.iaload, 1) := by decide +kernel
theorem dX12_placeOf_13 : decode cX12_placeOf 13 = .ok (.ireturn, 1) := by decide +kernel
theorem dX12_isAt_0 : decode cX12_isAt 0 = .ok (.aload_n 0, 1) := by decide +kernel
theorem dX12_isAt_1 : decode cX12_isAt 1 = .ok (.getfield 64, 3) := by decide +kernel
theorem dX12_isAt_4 : decode cX12_isAt 4 = .ok (.aload_n 0, 1) := by decide +kernel
theorem dX12_isAt_5 : decode cX12_isAt 5 = .ok (.iload_n 2, 1) := by decide +kernel
theorem dX12_isAt_6 : decode cX12_isAt 6 = .ok (.invokevirtual 487, 3) := by decide +kernel
theorem dX12_isAt_9 : decode cX12_isAt 9 = .ok (.iaload, 1) := by decide +kernel
theorem dX12_isAt_10 : decode cX12_isAt 10 = .ok (.iload_n 1, 1) := by decide +kernel
theorem dX12_isAt_11 : decode cX12_isAt 11 = .ok (.if_icmp .eq 17, 3) := by decide +kernel
theorem dX12_isAt_14 : decode cX12_isAt 14 = .ok (.aload_n 0, 1) := by decide +kernel
theorem dX12_isAt_15 : decode cX12_isAt 15 = .ok (.getfield 67, 3) := by decide +kernel
theorem dX12_isAt_18 : decode cX12_isAt 18 = .ok (.aload_n 0, 1) := by decide +kernel
theorem dX12_isAt_19 : decode cX12_isAt 19 = .ok (.iload_n 2, 1) := by decide +kernel
theorem dX12_isAt_20 : decode cX12_isAt 20 = .ok (.invokevirtual 487, 3) := by decide +kernel
theorem dX12_isAt_23 : decode cX12_isAt 23 = .ok (.iaload, 1) := by decide +kernel
theorem dX12_isAt_24 : decode cX12_isAt 24 = .ok (.iload_n 1, 1) := by decide +kernel
theorem dX12_isAt_25 : decode cX12_isAt 25 = .ok (.if_icmp .ne 7, 3) := by decide +kernel
theorem dX12_isAt_28 : decode cX12_isAt 28 = .ok (.iconst 1, 1) := by decide +kernel
theorem dX12_isAt_29 : decode cX12_isAt 29 = .ok (.goto 4, 3) := by decide +kernel
theorem dX12_isAt_32 : decode cX12_isAt 32 = .ok (.iconst 0, 1) := by decide +kernel
theorem dX12_isAt_33 : decode cX12_isAt 33 = .ok (.ireturn, 1) := by decide +kernel
theorem dX12_otherSide_0 : decode cX12_otherSide 0 = .ok (.aload_n 0, 1) := by decide +kernel
theorem dX12_otherSide_1 : decode cX12_otherSide 1 = .ok (.getfield 64, 3) := by decide +kernel
theorem dX12_otherSide_4 : decode cX12_otherSide 4 = .ok (.aload_n 0, 1) := by decide +kernel
theorem dX12_otherSide_5 : decode cX12_otherSide 5 = .ok (.iload_n 1, 1) := by decide +kernel
theorem dX12_otherSide_6 : decode cX12_otherSide 6 = .ok (.invokevirtual 487, 3) := by decide +kernel
theorem dX12_otherSide_9 : decode cX12_otherSide 9 = .ok (.iaload, 1) := by decide +kernel
theorem dX12_otherSide_10 : decode cX12_otherSide 10 = .ok (.iload_n 2, 1) := by decide +kernel
theorem dX12_otherSide_11 : decode cX12_otherSide 11 = .ok (.if_icmp .ne 16, 3) := by decide +kernel
theorem dX12_otherSide_14 : decode cX12_otherSide 14 = .ok (.aload_n 0, 1) := by decide +kernel
theorem dX12_otherSide_15 : decode cX12_otherSide 15 = .ok (.getfield 67, 3) := by decide +kernel
theorem dX12_otherSide_18 : decode cX12_otherSide 18 = .ok (.aload_n 0, 1) := by decide +kernel
theorem dX12_otherSide_19 : decode cX12_otherSide 19 = .ok (.iload_n 1, 1) := by decide +kernel
theorem dX12_otherSide_20 : decode cX12_otherSide 20 = .ok (.invokevirtual 487, 3) := by decide +kernel
theorem dX12_otherSide_23 : decode cX12_otherSide 23 = .ok (.iaload, 1) := by decide +kernel
theorem dX12_otherSide_24 : decode cX12_otherSide 24 = .ok (.goto 13, 3) := by decide +kernel
theorem dX12_otherSide_27 : decode cX12_otherSide 27 = .ok (.aload_n 0, 1) := by decide +kernel
theorem dX12_otherSide_28 : decode cX12_otherSide 28 = .ok (.getfield 64, 3) := by decide +kernel
theorem dX12_otherSide_31 : decode cX12_otherSide 31 = .ok (.aload_n 0, 1) := by decide +kernel
theorem dX12_otherSide_32 : decode cX12_otherSide 32 = .ok (.iload_n 1, 1) := by decide +kernel
theorem dX12_otherSide_33 : decode cX12_otherSide 33 = .ok (.invokevirtual 487, 3) := by decide +kernel
theorem dX12_otherSide_36 : decode cX12_otherSide 36 = .ok (.iaload, 1) := by decide +kernel
theorem dX12_otherSide_37 : decode cX12_otherSide 37 = .ok (.ireturn, 1) := by decide +kernel
