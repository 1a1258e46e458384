theorem dX5_readShut_0 : decode cX5_readShut 0 = .ok (.aload_n 0, 1) := by decide +kernel
theorem dX5_readShut_1 : decode cX5_readShut 1 = .ok (.aload_n 1, 1) := by decide +kernel
theorem dX5_readShut_2 : decode cX5_readShut 2 = .ok (.iconst 1, 1) := by decide +kernel
theorem dX5_readShut_3 : decode cX5_readShut 3 = .ok (.invokevirtual 128, 3) := by decide +kernel
theorem dX5_readShut_6 : decode cX5_readShut 6 = .ok (.istore_n 2, 1) := by decide +kernel
theorem dX5_readShut_7 : decode cX5_readShut 7 = .ok (.iload_n 2, 1) := by decide +kernel
theorem dX5_readShut_8 : decode cX5_readShut 8 = .ok (.iconst (-1), 1) := by decide +kernel
theorem dX5_readShut_9 : decode cX5_readShut 9 = .ok (.if_icmp .eq 12, 3) := by decide +kernel
theorem dX5_readShut_12 : decode cX5_readShut 12 = .ok (.aload_n 0, 1) := by decide +kernel
theorem dX5_readShut_13 : decode cX5_readShut 13 = .ok (.bipush 14, 2) := by decide +kernel
theorem dX5_readShut_15 : decode cX5_readShut 15 = .ok (.invokevirtual 144, 3) := by decide +kernel
theorem dX5_readShut_18 : decode cX5_readShut 18 = .ok (.ifCond .ne 5, 3) := by decide +kernel
theorem dX5_readShut_21 : decode cX5_readShut 21 = .ok (.iconst 0, 1) := by decide +kernel
theorem dX5_readShut_22 : decode cX5_readShut 22 = .ok (.ireturn, 1) := by decide +kernel
theorem dX5_readShut_23 : decode cX5_readShut 23 = .ok (.aload_n 0, 1) := by decide +kernel
theorem dX5_readShut_24 : decode cX5_readShut 24 = .ok (.aload_n 1, 1) := by decide +kernel
theorem dX5_readShut_25 : decode cX5_readShut 25 = .ok (.iconst 2, 1) := by decide +kernel
theorem dX5_readShut_26 : decode cX5_readShut 26 = .ok (.invokevirtual 128, 3) := by decide +kernel
theorem dX5_readShut_29 : decode cX5_readShut 29 = .ok (.istore_n 3, 1) := by decide +kernel
theorem dX5_readShut_30 : decode cX5_readShut 30 = .ok (.iload_n 3, 1) := by decide +kernel
theorem dX5_readShut_31 : decode cX5_readShut 31 = .ok (.iconst (-1), 1) := by decide +kernel
theorem dX5_readShut_32 : decode cX5_readShut 32 = .ok (.if_icmp .ne 5, 3) := by decide +kernel
theorem dX5_readShut_35 : decode cX5_readShut 35 = .ok (.iconst 0, 1) := by decide +kernel
theorem dX5_readShut_36 : decode cX5_readShut 36 = .ok (.ireturn, 1) := by decide +kernel
theorem dX5_readShut_37 : decode cX5_readShut 37 = .ok (.aload_n 1, 1) := by decide +kernel
theorem dX5_readShut_38 : decode cX5_readShut 38 = .ok (.getfield 190, 3) := by decide +kernel
theorem dX5_readShut_41 : decode cX5_readShut 41 = .ok (.iload_n 3, 1) := by decide +kernel
theorem dX5_readShut_42 : decode cX5_readShut 42 = .ok (.iload_n 2, 1) := by decide +kernel
theorem dX5_readShut_43 : decode cX5_readShut 43 = .ok (.invokevirtual 199, 3) := by decide +kernel
theorem dX5_readShut_46 : decode cX5_readShut 46 = .ok (.ifCond .ne 11, 3) := by decide +kernel
theorem dX5_readShut_49 : decode cX5_readShut 49 = .ok (.aload_n 0, 1) := by decide +kernel
theorem dX5_readShut_50 : decode cX5_readShut 50 = .ok (.iconst 3, 1) := by decide +kernel
theorem dX5_readShut_51 : decode cX5_readShut 51 = .ok (.invokevirtual 132, 3) := by decide +kernel
theorem dX5_readShut_54 : decode cX5_readShut 54 = .ok (.ifCond .eq 7, 3) := by decide +kernel
theorem dX5_readShut_57 : decode cX5_readShut 57 = .ok (.iconst 1, 1) := by decide +kernel
theorem dX5_readShut_58 : decode cX5_readShut 58 = .ok (.goto 4, 3) := by decide +kernel
theorem dX5_readShut_61 : decode cX5_readShut 61 = .ok (.iconst 0, 1) := by decide +kernel
theorem dX5_readShut_62 : decode cX5_readShut 62 = .ok (.ireturn, 1) := by decide +kernel
theorem dX5_readLost_0 : decode cX5_readLost 0 = .ok (.aload_n 0, 1) := by decide +kernel
theorem dX5_readLost_1 : decode cX5_readLost 1 = .ok (.aload_n 1, 1) := by decide +kernel
theorem dX5_readLost_2 : decode cX5_readLost 2 = .ok (.iconst 1, 1) := by decide +kernel
theorem dX5_readLost_3 : decode cX5_readLost 3 = .ok (.invokevirtual 128, 3) := by decide +kernel
theorem dX5_readLost_6 : decode cX5_readLost 6 = .ok (.istore_n 2, 1) := by decide +kernel
theorem dX5_readLost_7 : decode cX5_readLost 7 = .ok (.iload_n 2, 1) := by decide +kernel
theorem dX5_readLost_8 : decode cX5_readLost 8 = .ok (.iconst (-1), 1) := by decide +kernel
theorem dX5_readLost_9 : decode cX5_readLost 9 = .ok (.if_icmp .ne 5, 3) := by decide +kernel
theorem dX5_readLost_12 : decode cX5_readLost 12 = .ok (.iconst 0, 1) := by decide +kernel
theorem dX5_readLost_13 : decode cX5_readLost 13 = .ok (.ireturn, 1) := by decide +kernel
theorem dX5_readLost_14 : decode cX5_readLost 14 = .ok (.aload_n 1, 1) := by decide +kernel
theorem dX5_readLost_15 : decode cX5_readLost 15 = .ok (.getfield 202, 3) := by decide +kernel
theorem dX5_readLost_18 : decode cX5_readLost 18 = .ok (.iload_n 2, 1) := by decide +kernel
theorem dX5_readLost_19 : decode cX5_readLost 19 = .ok (.ishr, 1) := by decide +kernel
theorem dX5_readLost_20 : decode cX5_readLost 20 = .ok (.iconst 1, 1) := by decide +kernel
theorem dX5_readLost_21 : decode cX5_readLost 21 = .ok (.iand, 1) := by decide +kernel
theorem dX5_readLost_22 : decode cX5_readLost 22 = .ok (.ifCond .eq 9, 3) := by decide +kernel
theorem dX5_readLost_25 : decode cX5_readLost 25 = .ok (.aload_n 0, 1) := by decide +kernel
theorem dX5_readLost_26 : decode cX5_readLost 26 = .ok (.iconst 3, 1) := by decide +kernel
theorem dX5_readLost_27 : decode cX5_readLost 27 = .ok (.invokevirtual 132, 3) := by decide +kernel
theorem dX5_readLost_30 : decode cX5_readLost 30 = .ok (.ireturn, 1) := by decide +kernel
theorem dX5_readLost_31 : decode cX5_readLost 31 = .ok (.aload_n 1, 1) := by decide +kernel
theorem dX5_readLost_32 : decode cX5_readLost 32 = .ok (.dup, 1) := by decide +kernel
theorem dX5_readLost_33 : decode cX5_readLost 33 = .ok (.getfield 202, 3) := by decide +kernel
theorem dX5_readLost_36 : decode cX5_readLost 36 = .ok (.iconst 1, 1) := by decide +kernel
theorem dX5_readLost_37 : decode cX5_readLost 37 = .ok (.iload_n 2, 1) := by decide +kernel
theorem dX5_readLost_38 : decode cX5_readLost 38 = .ok (.ishl, 1) := by decide +kernel
theorem dX5_readLost_39 : decode cX5_readLost 39 = .ok (.ior, 1) := by decide +kernel
theorem dX5_readLost_40 : decode cX5_readLost 40 = .ok (.putfield 202, 3) := by decide +kernel
theorem dX5_readLost_43 : decode cX5_readLost 43 = .ok (.iconst 1, 1) := by decide +kernel
theorem dX5_readLost_44 : decode cX5_readLost 44 = .ok (.ireturn, 1) := by decide +kernel
theorem dX5_isNameAhead_0 : decode cX5_isNameAhead 0 = .ok (.aload_n 0, 1) := by decide +kernel
theorem dX5_isNameAhead_1 : decode cX5_isNameAhead 1 = .ok (.getfield 30, 3) := by decide +kernel
theorem dX5_isNameAhead_4 : decode cX5_isNameAhead 4 = .ok (.invokevirtual 54, 3) := by decide +kernel
theorem dX5_isNameAhead_7 : decode cX5_isNameAhead 7 = .ok (.aload_n 0, 1) := by decide +kernel
theorem dX5_isNameAhead_8 : decode cX5_isNameAhead 8 = .ok (.getfield 30, 3) := by decide +kernel
theorem dX5_isNameAhead_11 : decode cX5_isNameAhead 11 = .ok (.getfield 57, 3) := by decide +kernel
theorem dX5_isNameAhead_14 : decode cX5_isNameAhead 14 = .ok (.iconst 1, 1) := by decide +kernel
theorem dX5_isNameAhead_15 : decode cX5_isNameAhead 15 = .ok (.if_icmp .eq 5, 3) := by decide +kernel
theorem dX5_isNameAhead_18 : decode cX5_isNameAhead 18 = .ok (.iconst 0, 1) := by decide +kernel
theorem dX5_isNameAhead_19 : decode cX5_isNameAhead 19 = .ok (.ireturn, 1) := by decide +kernel
theorem dX5_isNameAhead_20 : decode cX5_isNameAhead 20 = .ok (.iconst 0, 1) := by decide +kernel
theorem dX5_isNameAhead_21 : decode cX5_isNameAhead 21 = .ok (.istore_n 1, 1) := by decide +kernel
theorem dX5_isNameAhead_22 : decode cX5_isNameAhead 22 = .ok (.iload_n 1, 1) := by decide +kernel
theorem dX5_isNameAhead_23 : decode cX5_isNameAhead 23 = .ok (.bipush 26, 2) := by decide +kernel
theorem dX5_isNameAhead_25 : decode cX5_isNameAhead 25 = .ok (.if_icmp .ge 27, 3) := by decide +kernel
theorem dX5_isNameAhead_28 : decode cX5_isNameAhead 28 = .ok (.aload_n 0, 1) := by decide +kernel
theorem dX5_isNameAhead_29 : decode cX5_isNameAhead 29 = .ok (.getfield 30, 3) := by decide +kernel
theorem dX5_isNameAhead_32 : decode cX5_isNameAhead 32 = .ok (.getfield 112, 3) := by decide +kernel
theorem dX5_isNameAhead_35 : decode cX5_isNameAhead 35 = .ok (.aload_n 0, 1) := by decide +kernel
theorem dX5_isNameAhead_36 : decode cX5_isNameAhead 36 = .ok (.getfield 9, 3) := by decide +kernel
theorem dX5_isNameAhead_39 : decode cX5_isNameAhead 39 = .ok (.iload_n 1, 1) := by decide +kernel
theorem dX5_isNameAhead_40 : decode cX5_isNameAhead 40 = .ok (.iaload, 1) := by decide +kernel
theorem dX5_isNameAhead_41 : decode cX5_isNameAhead 41 = .ok (.if_icmp .ne 5, 3) := by decide +kernel
theorem dX5_isNameAhead_44 : decode cX5_isNameAhead 44 = .ok (.iconst 0, 1) := by decide +kernel
theorem dX5_isNameAhead_45 : decode cX5_isNameAhead 45 = .ok (.ireturn, 1) := by decide +kernel
theorem dX5_isNameAhead_46 : decode cX5_isNameAhead 46 = .ok (.iinc 1 1, 3) := by decide +kernel
theorem dX5_isNameAhead_49 : decode cX5_isNameAhead 49 = .ok (.goto (-27), 3) := by decide +kernel
theorem dX5_isNameAhead_52 : decode cX5_isNameAhead 52 = .ok (.iconst 1, 1) := by decide +kernel
theorem dX5_isNameAhead_53 : decode cX5_isNameAhead 53 = .ok (.ireturn, 1) := by decide +kernel
theorem dX5_asked_0 : decode cX5_asked 0 = .ok (.aload_n 0, 1) := by decide +kernel
theorem dX5_asked_1 : decode cX5_asked 1 = .ok (.invokevirtual 244, 3) := by decide +kernel
theorem dX5_asked_4 : decode cX5_asked 4 = .ok (.ifCond .ne 9, 3) := by decide +kernel
theorem dX5_asked_7 : decode cX5_asked 7 = .ok (.aload_n 0, 1) := by decide +kernel
theorem dX5_asked_8 : decode cX5_asked 8 = .ok (.iconst 1, 1) := by decide +kernel
theorem dX5_asked_9 : decode cX5_asked 9 = .ok (.invokevirtual 121, 3) := by decide +kernel
theorem dX5_asked_12 : decode cX5_asked 12 = .ok (.ireturn, 1) := by decide +kernel
theorem dX5_asked_13 : decode cX5_asked 13 = .ok (.aload_n 0, 1) := by decide +kernel
theorem dX5_asked_14 : decode cX5_asked 14 = .ok (.getfield 30, 3) := by decide +kernel
theorem dX5_asked_17 : decode cX5_asked 17 = .ok (.invokevirtual 125, 3) := by decide +kernel
theorem dX5_asked_20 : decode cX5_asked 20 = .ok (.aload_n 1, 1) := by decide +kernel
theorem dX5_asked_21 : decode cX5_asked 21 = .ok (.iload_n 2, 1) := by decide +kernel
theorem dX5_asked_22 : decode cX5_asked 22 = .ok (.aload_n 0, 1) := by decide +kernel
theorem dX5_asked_23 : decode cX5_asked 23 = .ok (.getfield 30, 3) := by decide +kernel
theorem dX5_asked_26 : decode cX5_asked 26 = .ok (.getfield 112, 3) := by decide +kernel
theorem dX5_asked_29 : decode cX5_asked 29 = .ok (.invokevirtual 247, 3) := by decide +kernel
theorem dX5_asked_32 : decode cX5_asked 32 = .ok (.istore_n 3, 1) := by decide +kernel
theorem dX5_asked_33 : decode cX5_asked 33 = .ok (.iload_n 3, 1) := by decide +kernel
theorem dX5_asked_34 : decode cX5_asked 34 = .ok (.iconst (-1), 1) := by decide +kernel
theorem dX5_asked_35 : decode cX5_asked 35 = .ok (.if_icmp .ne 11, 3) := by decide +kernel
theorem dX5_asked_38 : decode cX5_asked 38 = .ok (.aload_n 0, 1) := by decide +kernel
theorem dX5_asked_39 : decode cX5_asked 39 = .ok (.iconst 3, 1) := by decide +kernel
theorem dX5_asked_40 : decode cX5_asked 40 = .ok (.invokevirtual 121, 3) := by decide +kernel
theorem dX5_asked_43 : decode cX5_asked 43 = .ok (.goto 4, 3) := by decide +kernel
theorem dX5_asked_46 : decode cX5_asked 46 = .ok (.iload_n 3, 1) := by decide +kernel
theorem dX5_asked_47 : decode cX5_asked 47 = .ok (.ireturn, 1) := by decide +kernel
theorem dX5_ownWord_0 : decode cX5_ownWord 0 = .ok (.aload_n 0, 1) := by decide +kernel
theorem dX5_ownWord_1 : decode cX5_ownWord 1 = .ok (.iload_n 1, 1) := by decide +kernel
theorem dX5_ownWord_2 : decode cX5_ownWord 2 = .ok (.invokevirtual 208, 3) := by decide +kernel
theorem dX5_ownWord_5 : decode cX5_ownWord 5 = .ok (.ifCond .ne 11, 3) := by decide +kernel
theorem dX5_ownWord_8 : decode cX5_ownWord 8 = .ok (.aload_n 0, 1) := by decide +kernel
theorem dX5_ownWord_9 : decode cX5_ownWord 9 = .ok (.iconst 1, 1) := by decide +kernel
theorem dX5_ownWord_10 : decode cX5_ownWord 10 = .ok (.invokevirtual 132, 3) := by decide +kernel
theorem dX5_ownWord_13 : decode cX5_ownWord 13 = .ok (.ifCond .eq 7, 3) := by decide +kernel
theorem dX5_ownWord_16 : decode cX5_ownWord 16 = .ok (.iconst 1, 1) := by decide +kernel
theorem dX5_ownWord_17 : decode cX5_ownWord 17 = .ok (.goto 4, 3) := by decide +kernel
theorem dX5_ownWord_20 : decode cX5_ownWord 20 = .ok (.iconst 0, 1) := by decide +kernel
theorem dX5_ownWord_21 : decode cX5_ownWord 21 = .ok (.ireturn, 1) := by decide +kernel
theorem dX5_passesWord_0 : decode cX5_passesWord 0 = .ok (.aload_n 0, 1) := by decide +kernel
theorem dX5_passesWord_1 : decode cX5_passesWord 1 = .ok (.getfield 30, 3) := by decide +kernel
theorem dX5_passesWord_4 : decode cX5_passesWord 4 = .ok (.invokevirtual 54, 3) := by decide +kernel
theorem dX5_passesWord_7 : decode cX5_passesWord 7 = .ok (.aload_n 0, 1) := by decide +kernel
theorem dX5_passesWord_8 : decode cX5_passesWord 8 = .ok (.getfield 30, 3) := by decide +kernel
theorem dX5_passesWord_11 : decode cX5_passesWord 11 = .ok (.getfield 57, 3) := by decide +kernel
theorem dX5_passesWord_14 : decode cX5_passesWord 14 = .ok (.iconst 1, 1) := by decide +kernel
theorem dX5_passesWord_15 : decode cX5_passesWord 15 = .ok (.if_icmp .ne 29, 3) := by decide +kernel
theorem dX5_passesWord_18 : decode cX5_passesWord 18 = .ok (.iload_n 1, 1) := by decide +kernel
theorem dX5_passesWord_19 : decode cX5_passesWord 19 = .ok (.ifCond .lt 25, 3) := by decide +kernel
theorem dX5_passesWord_22 : decode cX5_passesWord 22 = .ok (.iload_n 1, 1) := by decide +kernel
theorem dX5_passesWord_23 : decode cX5_passesWord 23 = .ok (.bipush 26, 2) := by decide +kernel
theorem dX5_passesWord_25 : decode cX5_passesWord 25 = .ok (.if_icmp .ge 19, 3) := by decide +kernel
theorem dX5_passesWord_28 : decode cX5_passesWord 28 = .ok (.aload_n 0, 1) := by decide +kernel
theorem dX5_passesWord_29 : decode cX5_passesWord 29 = .ok (.getfield 30, 3) := by decide +kernel
theorem dX5_passesWord_32 : decode cX5_passesWord 32 = .ok (.getfield 112, 3) := by decide +kernel
theorem dX5_passesWord_35 : decode cX5_passesWord 35 = .ok (.aload_n 0, 1) := by decide +kernel
theorem dX5_passesWord_36 : decode cX5_passesWord 36 = .ok (.getfield 9, 3) := by decide +kernel
theorem dX5_passesWord_39 : decode cX5_passesWord 39 = .ok (.iload_n 1, 1) := by decide +kernel
theorem dX5_passesWord_40 : decode cX5_passesWord 40 = .ok (.iaload, 1) := by decide +kernel
theorem dX5_passesWord_41 : decode cX5_passesWord 41 = .ok (.if_icmp .eq 5, 3) := by decide +kernel
theorem dX5_passesWord_44 : decode cX5_passesWord 44 = .ok (.iconst 0, 1) := by decide +kernel
theorem dX5_passesWord_45 : decode cX5_passesWord 45 = .ok (.ireturn, 1) := by decide +kernel
theorem dX5_passesWord_46 : decode cX5_passesWord 46 = .ok (.aload_n 0, 1) := by decide +kernel
theorem dX5_passesWord_47 : decode cX5_passesWord 47 = .ok (.getfield 30, 3) := by decide +kernel
theorem dX5_passesWord_50 : decode cX5_passesWord 50 = .ok (.invokevirtual 125, 3) := by decide +kernel
theorem dX5_passesWord_53 : decode cX5_passesWord 53 = .ok (.iconst 1, 1) := by decide +kernel
theorem dX5_passesWord_54 : decode cX5_passesWord 54 = .ok (.ireturn, 1) := by decide +kernel
theorem dX9_find_0 : decode cX9_find 0 = .ok (.iload_n 1, 1) := by decide +kernel
theorem dX9_find_1 : decode cX9_find 1 = .ok (.ifCond .lt 8, 3) := by decide +kernel
theorem dX9_find_4 : decode cX9_find 4 = .ok (.iload_n 1, 1) := by decide +kernel
theorem dX9_find_5 : decode cX9_find 5 = .ok (.iconst 5, 1) := by decide +kernel
theorem dX9_find_6 : decode cX9_find 6 = .ok (.if_icmp .lt 5, 3) := by decide +kernel
theorem dX9_find_9 : decode cX9_find 9 = .ok (.iconst (-1), 1) := by decide +kernel
theorem dX9_find_10 : decode cX9_find 10 = .ok (.ireturn, 1) := by decide +kernel
theorem dX9_find_11 : decode cX9_find 11 = .ok (.iconst 0, 1) := by decide +kernel
theorem dX9_find_12 : decode cX9_find 12 = .ok (.istore_n 3, 1) := by decide +kernel
theorem dX9_find_13 : decode cX9_find 13 = .ok (.iload_n 3, 1) := by decide +kernel
theorem dX9_find_14 : decode cX9_find 14 = .ok (.aload_n 0, 1) := by decide +kernel
theorem dX9_find_15 : decode cX9_find 15 = .ok (.getfield 9, 3) := by decide +kernel
theorem dX9_find_18 : decode cX9_find 18 = .ok (.iload_n 1, 1) := by decide +kernel
theorem dX9_find_19 : decode cX9_find 19 = .ok (.iaload, 1) := by decide +kernel
theorem dX9_find_20 : decode cX9_find 20 = .ok (.if_icmp .ge 29, 3) := by decide +kernel
theorem dX9_find_23 : decode cX9_find 23 = .ok (.iload_n 3, 1) := by decide +kernel
theorem dX9_find_24 : decode cX9_find 24 = .ok (.bipush 10, 2) := by decide +kernel
theorem dX9_find_26 : decode cX9_find 26 = .ok (.if_icmp .ge 23, 3) := by decide +kernel
theorem dX9_find_29 : decode cX9_find 29 = .ok (.aload_n 0, 1) := by decide +kernel
theorem dX9_find_30 : decode cX9_find 30 = .ok (.getfield 17, 3) := by decide +kernel
theorem dX9_find_33 : decode cX9_find 33 = .ok (.iload_n 1, 1) := by decide +kernel
theorem dX9_find_34 : decode cX9_find 34 = .ok (.aaload, 1) := by decide +kernel
theorem dX9_find_35 : decode cX9_find 35 = .ok (.iload_n 3, 1) := by decide +kernel
theorem dX9_find_36 : decode cX9_find 36 = .ok (.iaload, 1) := by decide +kernel
theorem dX9_find_37 : decode cX9_find 37 = .ok (.iload_n 2, 1) := by decide +kernel
theorem dX9_find_38 : decode cX9_find 38 = .ok (.if_icmp .ne 5, 3) := by decide +kernel
theorem dX9_find_41 : decode cX9_find 41 = .ok (.iload_n 3, 1) := by decide +kernel
theorem dX9_find_42 : decode cX9_find 42 = .ok (.ireturn, 1) := by decide +kernel
theorem dX9_find_43 : decode cX9_find 43 = .ok (.iinc 3 1, 3) := by decide +kernel
theorem dX9_find_46 : decode cX9_find 46 = .ok (.goto (-33), 3) := by decide +kernel
theorem dX9_find_49 : decode cX9_find 49 = .ok (.iconst (-1), 1) := by decide +kernel
theorem dX9_find_50 : decode cX9_find 50 = .ok (.ireturn, 1) := by decide +kernel
