theorem dX10_minutesOf_0 : decode cX10_minutesOf 0 = .ok (.aload_n 1, 1) := by decide +kernel
theorem dX10_minutesOf_1 : decode cX10_minutesOf 1 = .ok (.getfield 18, 3) := by decide +kernel
theorem dX10_minutesOf_4 : decode cX10_minutesOf 4 = .ok (.iconst 0, 1) := by decide +kernel
theorem dX10_minutesOf_5 : decode cX10_minutesOf 5 = .ok (.iaload, 1) := by decide +kernel
theorem dX10_minutesOf_6 : decode cX10_minutesOf 6 = .ok (.istore 4, 2) := by decide +kernel
theorem dX10_minutesOf_8 : decode cX10_minutesOf 8 = .ok (.aload_n 1, 1) := by decide +kernel
theorem dX10_minutesOf_9 : decode cX10_minutesOf 9 = .ok (.iconst 0, 1) := by decide +kernel
theorem dX10_minutesOf_10 : decode cX10_minutesOf 10 = .ok (.iload_n 2, 1) := by decide +kernel
theorem dX10_minutesOf_11 : decode cX10_minutesOf 11 = .ok (.invokevirtual 23, 3) := by decide +kernel
theorem dX10_minutesOf_14 : decode cX10_minutesOf 14 = .ok (.ifCond .ne 5, 3) := by decide +kernel
theorem dX10_minutesOf_17 : decode cX10_minutesOf 17 = .ok (.iconst (-1), 1) := by decide +kernel
theorem dX10_minutesOf_18 : decode cX10_minutesOf 18 = .ok (.ireturn, 1) := by decide +kernel
theorem dX10_minutesOf_19 : decode cX10_minutesOf 19 = .ok (.aload_n 0, 1) := by decide +kernel
theorem dX10_minutesOf_20 : decode cX10_minutesOf 20 = .ok (.aload_n 1, 1) := by decide +kernel
theorem dX10_minutesOf_21 : decode cX10_minutesOf 21 = .ok (.iload 4, 2) := by decide +kernel
theorem dX10_minutesOf_23 : decode cX10_minutesOf 23 = .ok (.invokevirtual 27, 3) := by decide +kernel
theorem dX10_minutesOf_26 : decode cX10_minutesOf 26 = .ok (.iload_n 3, 1) := by decide +kernel
theorem dX10_minutesOf_27 : decode cX10_minutesOf 27 = .ok (.iconst 1, 1) := by decide +kernel
theorem dX10_minutesOf_28 : decode cX10_minutesOf 28 = .ok (.iload 4, 2) := by decide +kernel
theorem dX10_minutesOf_30 : decode cX10_minutesOf 30 = .ok (.ishl, 1) := by decide +kernel
theorem dX10_minutesOf_31 : decode cX10_minutesOf 31 = .ok (.iconst 1, 1) := by decide +kernel
theorem dX10_minutesOf_32 : decode cX10_minutesOf 32 = .ok (.isub, 1) := by decide +kernel
theorem dX10_minutesOf_33 : decode cX10_minutesOf 33 = .ok (.iand, 1) := by decide +kernel
theorem dX10_minutesOf_34 : decode cX10_minutesOf 34 = .ok (.iconst 1, 1) := by decide +kernel
theorem dX10_minutesOf_35 : decode cX10_minutesOf 35 = .ok (.iload_n 2, 1) := by decide +kernel
theorem dX10_minutesOf_36 : decode cX10_minutesOf 36 = .ok (.ishl, 1) := by decide +kernel
theorem dX10_minutesOf_37 : decode cX10_minutesOf 37 = .ok (.ior, 1) := by decide +kernel
theorem dX10_minutesOf_38 : decode cX10_minutesOf 38 = .ok (.istore 5, 2) := by decide +kernel
theorem dX10_minutesOf_40 : decode cX10_minutesOf 40 = .ok (.aload_n 0, 1) := by decide +kernel
theorem dX10_minutesOf_41 : decode cX10_minutesOf 41 = .ok (.iload 5, 2) := by decide +kernel
theorem dX10_minutesOf_43 : decode cX10_minutesOf 43 = .ok (.iload_n 2, 1) := by decide +kernel
theorem dX10_minutesOf_44 : decode cX10_minutesOf 44 = .ok (.invokevirtual 31, 3) := by decide +kernel
theorem dX10_minutesOf_47 : decode cX10_minutesOf 47 = .ok (.istore 6, 2) := by decide +kernel
theorem dX10_minutesOf_49 : decode cX10_minutesOf 49 = .ok (.iload 6, 2) := by decide +kernel
theorem dX10_minutesOf_51 : decode cX10_minutesOf 51 = .ok (.ldc 35, 2) := by decide +kernel
theorem dX10_minutesOf_53 : decode cX10_minutesOf 53 = .ok (.if_icmp .ge 8, 3) := by decide +kernel
theorem dX10_minutesOf_56 : decode cX10_minutesOf 56 = .ok (.iload 6, 2) := by decide +kernel
theorem dX10_minutesOf_58 : decode cX10_minutesOf 58 = .ok (.goto 4, 3) := by decide +kernel
theorem dX10_minutesOf_61 : decode cX10_minutesOf 61 = .ok (.iconst (-1), 1) := by decide +kernel
theorem dX10_minutesOf_62 : decode cX10_minutesOf 62 = .ok (.ireturn, 1) := by decide +kernel
theorem dX11_feed_0 : decode cX11_feed 0 = .ok (.aload_n 0, 1) := by decide +kernel
theorem dX11_feed_1 : decode cX11_feed 1 = .ok (.getfield 10, 3) := by decide +kernel
theorem dX11_feed_4 : decode cX11_feed 4 = .ok (.invokevirtual 81, 3) := by decide +kernel
theorem dX11_feed_7 : decode cX11_feed 7 = .ok (.ifCond .ne 9, 3) := by decide +kernel
theorem dX11_feed_10 : decode cX11_feed 10 = .ok (.aload_n 0, 1) := by decide +kernel
theorem dX11_feed_11 : decode cX11_feed 11 = .ok (.iconst 0, 1) := by decide +kernel
theorem dX11_feed_12 : decode cX11_feed 12 = .ok (.invokevirtual 85, 3) := by decide +kernel
theorem dX11_feed_15 : decode cX11_feed 15 = .ok (.ireturn, 1) := by decide +kernel
theorem dX11_feed_16 : decode cX11_feed 16 = .ok (.aload_n 0, 1) := by decide +kernel
theorem dX11_feed_17 : decode cX11_feed 17 = .ok (.getfield 10, 3) := by decide +kernel
theorem dX11_feed_20 : decode cX11_feed 20 = .ok (.iload_n 1, 1) := by decide +kernel
theorem dX11_feed_21 : decode cX11_feed 21 = .ok (.invokevirtual 89, 3) := by decide +kernel
theorem dX11_feed_24 : decode cX11_feed 24 = .ok (.aload_n 0, 1) := by decide +kernel
theorem dX11_feed_25 : decode cX11_feed 25 = .ok (.getfield 10, 3) := by decide +kernel
theorem dX11_feed_28 : decode cX11_feed 28 = .ok (.iload_n 2, 1) := by decide +kernel
theorem dX11_feed_29 : decode cX11_feed 29 = .ok (.invokevirtual 89, 3) := by decide +kernel
theorem dX11_feed_32 : decode cX11_feed 32 = .ok (.aload_n 0, 1) := by decide +kernel
theorem dX11_feed_33 : decode cX11_feed 33 = .ok (.getfield 10, 3) := by decide +kernel
theorem dX11_feed_36 : decode cX11_feed 36 = .ok (.iload_n 3, 1) := by decide +kernel
theorem dX11_feed_37 : decode cX11_feed 37 = .ok (.invokevirtual 89, 3) := by decide +kernel
theorem dX11_feed_40 : decode cX11_feed 40 = .ok (.aload_n 0, 1) := by decide +kernel
theorem dX11_feed_41 : decode cX11_feed 41 = .ok (.getfield 10, 3) := by decide +kernel
theorem dX11_feed_44 : decode cX11_feed 44 = .ok (.iload 4, 2) := by decide +kernel
theorem dX11_feed_46 : decode cX11_feed 46 = .ok (.invokevirtual 89, 3) := by decide +kernel
theorem dX11_feed_49 : decode cX11_feed 49 = .ok (.aload_n 0, 1) := by decide +kernel
theorem dX11_feed_50 : decode cX11_feed 50 = .ok (.getfield 10, 3) := by decide +kernel
theorem dX11_feed_53 : decode cX11_feed 53 = .ok (.iload 5, 2) := by decide +kernel
theorem dX11_feed_55 : decode cX11_feed 55 = .ok (.invokevirtual 89, 3) := by decide +kernel
theorem dX11_feed_58 : decode cX11_feed 58 = .ok (.aload_n 0, 1) := by decide +kernel
theorem dX11_feed_59 : decode cX11_feed 59 = .ok (.getfield 10, 3) := by decide +kernel
theorem dX11_feed_62 : decode cX11_feed 62 = .ok (.getfield 93, 3) := by decide +kernel
theorem dX11_feed_65 : decode cX11_feed 65 = .ok (.ireturn, 1) := by decide +kernel
theorem dX11_end_0 : decode cX11_end 0 = .ok (.iload_n 1, 1) := by decide +kernel
theorem dX11_end_1 : decode cX11_end 1 = .ok (.ifCond .lt 14, 3) := by decide +kernel
theorem dX11_end_4 : decode cX11_end 4 = .ok (.iload_n 1, 1) := by decide +kernel
theorem dX11_end_5 : decode cX11_end 5 = .ok (.aload_n 0, 1) := by decide +kernel
theorem dX11_end_6 : decode cX11_end 6 = .ok (.getfield 10, 3) := by decide +kernel
theorem dX11_end_9 : decode cX11_end 9 = .ok (.getfield 93, 3) := by decide +kernel
theorem dX11_end_12 : decode cX11_end 12 = .ok (.if_icmp .le 11, 3) := by decide +kernel
theorem dX11_end_15 : decode cX11_end 15 = .ok (.aload_n 0, 1) := by decide +kernel
theorem dX11_end_16 : decode cX11_end 16 = .ok (.iconst 0, 1) := by decide +kernel
theorem dX11_end_17 : decode cX11_end 17 = .ok (.invokevirtual 85, 3) := by decide +kernel
theorem dX11_end_20 : decode cX11_end 20 = .ok (.pop, 1) := by decide +kernel
theorem dX11_end_21 : decode cX11_end 21 = .ok (.iconst 0, 1) := by decide +kernel
theorem dX11_end_22 : decode cX11_end 22 = .ok (.ireturn, 1) := by decide +kernel
theorem dX11_end_23 : decode cX11_end 23 = .ok (.aload_n 0, 1) := by decide +kernel
theorem dX11_end_24 : decode cX11_end 24 = .ok (.getfield 10, 3) := by decide +kernel
theorem dX11_end_27 : decode cX11_end 27 = .ok (.iload_n 1, 1) := by decide +kernel
theorem dX11_end_28 : decode cX11_end 28 = .ok (.putfield 93, 3) := by decide +kernel
theorem dX11_end_31 : decode cX11_end 31 = .ok (.iconst 1, 1) := by decide +kernel
theorem dX11_end_32 : decode cX11_end 32 = .ok (.ireturn, 1) := by decide +kernel
theorem dX11_town_0 : decode cX11_town 0 = .ok (.aload_n 0, 1) := by decide +kernel
theorem dX11_town_1 : decode cX11_town 1 = .ok (.getfield 21, 3) := by decide +kernel
theorem dX11_town_4 : decode cX11_town 4 = .ok (.aload_n 0, 1) := by decide +kernel
theorem dX11_town_5 : decode cX11_town 5 = .ok (.getfield 78, 3) := by decide +kernel
theorem dX11_town_8 : decode cX11_town 8 = .ok (.invokevirtual 97, 3) := by decide +kernel
theorem dX11_town_11 : decode cX11_town 11 = .ok (.istore_n 1, 1) := by decide +kernel
theorem dX11_town_12 : decode cX11_town 12 = .ok (.aload_n 0, 1) := by decide +kernel
theorem dX11_town_13 : decode cX11_town 13 = .ok (.getfield 10, 3) := by decide +kernel
theorem dX11_town_16 : decode cX11_town 16 = .ok (.iconst 0, 1) := by decide +kernel
theorem dX11_town_17 : decode cX11_town 17 = .ok (.putfield 93, 3) := by decide +kernel
theorem dX11_town_20 : decode cX11_town 20 = .ok (.iload_n 1, 1) := by decide +kernel
theorem dX11_town_21 : decode cX11_town 21 = .ok (.iconst (-1), 1) := by decide +kernel
theorem dX11_town_22 : decode cX11_town 22 = .ok (.if_icmp .ne 9, 3) := by decide +kernel
theorem dX11_town_25 : decode cX11_town 25 = .ok (.aload_n 0, 1) := by decide +kernel
theorem dX11_town_26 : decode cX11_town 26 = .ok (.iconst 1, 1) := by decide +kernel
theorem dX11_town_27 : decode cX11_town 27 = .ok (.invokevirtual 85, 3) := by decide +kernel
theorem dX11_town_30 : decode cX11_town 30 = .ok (.ireturn, 1) := by decide +kernel
theorem dX11_town_31 : decode cX11_town 31 = .ok (.aload_n 0, 1) := by decide +kernel
theorem dX11_town_32 : decode cX11_town 32 = .ok (.getfield 74, 3) := by decide +kernel
theorem dX11_town_35 : decode cX11_town 35 = .ok (.astore_n 2, 1) := by decide +kernel
theorem dX11_town_36 : decode cX11_town 36 = .ok (.aload_n 0, 1) := by decide +kernel
theorem dX11_town_37 : decode cX11_town 37 = .ok (.aload_n 0, 1) := by decide +kernel
theorem dX11_town_38 : decode cX11_town 38 = .ok (.getfield 78, 3) := by decide +kernel
theorem dX11_town_41 : decode cX11_town 41 = .ok (.putfield 74, 3) := by decide +kernel
theorem dX11_town_44 : decode cX11_town 44 = .ok (.aload_n 0, 1) := by decide +kernel
theorem dX11_town_45 : decode cX11_town 45 = .ok (.aload_n 2, 1) := by decide +kernel
theorem dX11_town_46 : decode cX11_town 46 = .ok (.putfield 78, 3) := by decide +kernel
theorem dX11_town_49 : decode cX11_town 49 = .ok (.aload_n 0, 1) := by decide +kernel
theorem dX11_town_50 : decode cX11_town 50 = .ok (.getfield 42, 3) := by decide +kernel
theorem dX11_town_53 : decode cX11_town 53 = .ok (.iconst 0, 1) := by decide +kernel
theorem dX11_town_54 : decode cX11_town 54 = .ok (.putfield 101, 3) := by decide +kernel
theorem dX11_town_57 : decode cX11_town 57 = .ok (.iload_n 1, 1) := by decide +kernel
theorem dX11_town_58 : decode cX11_town 58 = .ok (.ireturn, 1) := by decide +kernel
theorem dX11_fault_0 : decode cX11_fault 0 = .ok (.iload_n 1, 1) := by decide +kernel
theorem dX11_fault_1 : decode cX11_fault 1 = .ok (.ifCond .ne 11, 3) := by decide +kernel
theorem dX11_fault_4 : decode cX11_fault 4 = .ok (.aload_n 0, 1) := by decide +kernel
theorem dX11_fault_5 : decode cX11_fault 5 = .ok (.getfield 21, 3) := by decide +kernel
theorem dX11_fault_8 : decode cX11_fault 8 = .ok (.getfield 104, 3) := by decide +kernel
theorem dX11_fault_11 : decode cX11_fault 11 = .ok (.ireturn, 1) := by decide +kernel
theorem dX11_fault_12 : decode cX11_fault 12 = .ok (.iload_n 1, 1) := by decide +kernel
theorem dX11_fault_13 : decode cX11_fault 13 = .ok (.iconst 1, 1) := by decide +kernel
theorem dX11_fault_14 : decode cX11_fault 14 = .ok (.if_icmp .ne 13, 3) := by decide +kernel
theorem dX11_fault_17 : decode cX11_fault 17 = .ok (.aload_n 0, 1) := by decide +kernel
theorem dX11_fault_18 : decode cX11_fault 18 = .ok (.getfield 21, 3) := by decide +kernel
theorem dX11_fault_21 : decode cX11_fault 21 = .ok (.getfield 107, 3) := by decide +kernel
theorem dX11_fault_24 : decode cX11_fault 24 = .ok (.goto 4, 3) := by decide +kernel
theorem dX11_fault_27 : decode cX11_fault 27 = .ok (.iconst (-1), 1) := by decide +kernel
theorem dX11_fault_28 : decode cX11_fault 28 = .ok (.ireturn, 1) := by decide +kernel
theorem dX11_has_0 : decode cX11_has 0 = .ok (.iload_n 1, 1) := by decide +kernel
theorem dX11_has_1 : decode cX11_has 1 = .ok (.bipush 8, 2) := by decide +kernel
theorem dX11_has_3 : decode cX11_has 3 = .ok (.if_icmp .ne 14, 3) := by decide +kernel
theorem dX11_has_6 : decode cX11_has 6 = .ok (.aload_n 0, 1) := by decide +kernel
theorem dX11_has_7 : decode cX11_has 7 = .ok (.getfield 74, 3) := by decide +kernel
theorem dX11_has_10 : decode cX11_has 10 = .ok (.invokevirtual 110, 3) := by decide +kernel
theorem dX11_has_13 : decode cX11_has 13 = .ok (.invokestatic 114, 3) := by decide +kernel
theorem dX11_has_16 : decode cX11_has 16 = .ok (.ireturn, 1) := by decide +kernel
theorem dX11_has_17 : decode cX11_has 17 = .ok (.iload_n 1, 1) := by decide +kernel
theorem dX11_has_18 : decode cX11_has 18 = .ok (.bipush 9, 2) := by decide +kernel
theorem dX11_has_20 : decode cX11_has 20 = .ok (.if_icmp .ne 14, 3) := by decide +kernel
theorem dX11_has_23 : decode cX11_has 23 = .ok (.aload_n 0, 1) := by decide +kernel
theorem dX11_has_24 : decode cX11_has 24 = .ok (.getfield 74, 3) := by decide +kernel
theorem dX11_has_27 : decode cX11_has 27 = .ok (.invokevirtual 119, 3) := by decide +kernel
theorem dX11_has_30 : decode cX11_has 30 = .ok (.invokestatic 114, 3) := by decide +kernel
theorem dX11_has_33 : decode cX11_has 33 = .ok (.ireturn, 1) := by decide +kernel
theorem dX11_has_34 : decode cX11_has 34 = .ok (.iload_n 1, 1) := by decide +kernel
theorem dX11_has_35 : decode cX11_has 35 = .ok (.ifCond .lt 21, 3) := by decide +kernel
theorem dX11_has_38 : decode cX11_has 38 = .ok (.iload_n 1, 1) := by decide +kernel
theorem dX11_has_39 : decode cX11_has 39 = .ok (.bipush 8, 2) := by decide +kernel
theorem dX11_has_41 : decode cX11_has 41 = .ok (.if_icmp .ge 15, 3) := by decide +kernel
theorem dX11_has_44 : decode cX11_has 44 = .ok (.aload_n 0, 1) := by decide +kernel
theorem dX11_has_45 : decode cX11_has 45 = .ok (.getfield 74, 3) := by decide +kernel
theorem dX11_has_48 : decode cX11_has 48 = .ok (.getfield 122, 3) := by decide +kernel
theorem dX11_has_51 : decode cX11_has 51 = .ok (.iload_n 1, 1) := by decide +kernel
theorem dX11_has_52 : decode cX11_has 52 = .ok (.iaload, 1) := by decide +kernel
theorem dX11_has_53 : decode cX11_has 53 = .ok (.goto 4, 3) := by decide +kernel
theorem dX11_has_56 : decode cX11_has 56 = .ok (.iconst (-1), 1) := by decide +kernel
theorem dX11_has_57 : decode cX11_has 57 = .ok (.ireturn, 1) := by decide +kernel
theorem dX11_letter_0 : decode cX11_letter 0 = .ok (.iload_n 1, 1) := by decide +kernel
theorem dX11_letter_1 : decode cX11_letter 1 = .ok (.ifCond .lt 30, 3) := by decide +kernel
theorem dX11_letter_4 : decode cX11_letter 4 = .ok (.iload_n 1, 1) := by decide +kernel
theorem dX11_letter_5 : decode cX11_letter 5 = .ok (.iconst 5, 1) := by decide +kernel
theorem dX11_letter_6 : decode cX11_letter 6 = .ok (.if_icmp .ge 25, 3) := by decide +kernel
theorem dX11_letter_9 : decode cX11_letter 9 = .ok (.aload_n 0, 1) := by decide +kernel
theorem dX11_letter_10 : decode cX11_letter 10 = .ok (.getfield 74, 3) := by decide +kernel
theorem dX11_letter_13 : decode cX11_letter 13 = .ok (.iload_n 1, 1) := by decide +kernel
theorem dX11_letter_14 : decode cX11_letter 14 = .ok (.iload_n 2, 1) := by decide +kernel
theorem dX11_letter_15 : decode cX11_letter 15 = .ok (.invokevirtual 125, 3) := by decide +kernel
theorem dX11_letter_18 : decode cX11_letter 18 = .ok (.ifCond .eq 13, 3) := by decide +kernel
theorem dX11_letter_21 : decode cX11_letter 21 = .ok (.iload_n 3, 1) := by decide +kernel
theorem dX11_letter_22 : decode cX11_letter 22 = .ok (.ifCond .lt 9, 3) := by decide +kernel
theorem dX11_letter_25 : decode cX11_letter 25 = .ok (.iload_n 3, 1) := by decide +kernel
theorem dX11_letter_26 : decode cX11_letter 26 = .ok (.bipush 6, 2) := by decide +kernel
theorem dX11_letter_28 : decode cX11_letter 28 = .ok (.if_icmp .lt 5, 3) := by decide +kernel
theorem dX11_letter_31 : decode cX11_letter 31 = .ok (.iconst (-1), 1) := by decide +kernel
theorem dX11_letter_32 : decode cX11_letter 32 = .ok (.ireturn, 1) := by decide +kernel
theorem dX11_letter_33 : decode cX11_letter 33 = .ok (.aload_n 0, 1) := by decide +kernel
theorem dX11_letter_34 : decode cX11_letter 34 = .ok (.getfield 74, 3) := by decide +kernel
theorem dX11_letter_37 : decode cX11_letter 37 = .ok (.getfield 129, 3) := by decide +kernel
theorem dX11_letter_40 : decode cX11_letter 40 = .ok (.iload_n 1, 1) := by decide +kernel
theorem dX11_letter_41 : decode cX11_letter 41 = .ok (.aaload, 1) := by decide +kernel
theorem dX11_letter_42 : decode cX11_letter 42 = .ok (.iload_n 2, 1) := by decide +kernel
theorem dX11_letter_43 : decode cX11_letter 43 = .ok (.iaload, 1) := by decide +kernel
theorem dX11_letter_44 : decode cX11_letter 44 = .ok (.iconst 5, 1) := by decide +kernel
theorem dX11_letter_45 : decode cX11_letter 45 = .ok (.iload_n 3, 1) := by decide +kernel
theorem dX11_letter_46 : decode cX11_letter 46 = .ok (.imul, 1) := by decide +kernel
theorem dX11_letter_47 : decode cX11_letter 47 = .ok (.ishr, 1) := by decide +kernel
theorem dX11_letter_48 : decode cX11_letter 48 = .ok (.bipush 31, 2) := by decide +kernel
theorem dX11_letter_50 : decode cX11_letter 50 = .ok (.iand, 1) := by decide +kernel
theorem dX11_letter_51 : decode cX11_letter 51 = .ok (.istore 4, 2) := by decide +kernel
theorem dX11_letter_53 : decode cX11_letter 53 = .ok (.iload 4, 2) := by decide +kernel
theorem dX11_letter_55 : decode cX11_letter 55 = .ok (.ifCond .ne 7, 3) := by decide +kernel
theorem dX11_letter_58 : decode cX11_letter 58 = .ok (.iconst (-1), 1) := by decide +kernel
theorem dX11_letter_59 : decode cX11_letter 59 = .ok (.goto 8, 3) := by decide +kernel
theorem dX11_letter_62 : decode cX11_letter 62 = .ok (.iload 4, 2) := by decide +kernel
theorem dX11_letter_64 : decode cX11_letter 64 = .ok (.bipush 96, 2) := by decide +kernel
theorem dX11_letter_66 : decode cX11_letter 66 = .ok (.iadd, 1) := by decide +kernel
theorem dX11_letter_67 : decode cX11_letter 67 = .ok (.ireturn, 1) := by decide +kernel
theorem dX11_door_0 : decode cX11_door 0 = .ok (.aload_n 0, 1) := by decide +kernel
theorem dX11_door_1 : decode cX11_door 1 = .ok (.getfield 74, 3) := by decide +kernel
theorem dX11_door_4 : decode cX11_door 4 = .ok (.iconst 1, 1) := by decide +kernel
theorem dX11_door_5 : decode cX11_door 5 = .ok (.iload_n 1, 1) := by decide +kernel
theorem dX11_door_6 : decode cX11_door 6 = .ok (.invokevirtual 125, 3) := by decide +kernel
theorem dX11_door_9 : decode cX11_door 9 = .ok (.ifCond .ne 5, 3) := by decide +kernel
theorem dX11_door_12 : decode cX11_door 12 = .ok (.iconst (-1), 1) := by decide +kernel
theorem dX11_door_13 : decode cX11_door 13 = .ok (.ireturn, 1) := by decide +kernel
theorem dX11_door_14 : decode cX11_door 14 = .ok (.iload_n 2, 1) := by decide +kernel
theorem dX11_door_15 : decode cX11_door 15 = .ok (.tableswitch 137 0 7 #[45, 55, 65, 82, 92, 104, 113, 125], 45) := by decide +kernel
theorem dX11_door_60 : decode cX11_door 60 = .ok (.aload_n 0, 1) := by decide +kernel
theorem dX11_door_61 : decode cX11_door 61 = .ok (.getfield 74, 3) := by decide +kernel
theorem dX11_door_64 : decode cX11_door 64 = .ok (.getfield 133, 3) := by decide +kernel
theorem dX11_door_67 : decode cX11_door 67 = .ok (.iload_n 1, 1) := by decide +kernel
theorem dX11_door_68 : decode cX11_door 68 = .ok (.iaload, 1) := by decide +kernel
theorem dX11_door_69 : decode cX11_door 69 = .ok (.ireturn, 1) := by decide +kernel
theorem dX11_door_70 : decode cX11_door 70 = .ok (.aload_n 0, 1) := by decide +kernel
theorem dX11_door_71 : decode cX11_door 71 = .ok (.getfield 74, 3) := by decide +kernel
theorem dX11_door_74 : decode cX11_door 74 = .ok (.getfield 136, 3) := by decide +kernel
theorem dX11_door_77 : decode cX11_door 77 = .ok (.iload_n 1, 1) := by decide +kernel
theorem dX11_door_78 : decode cX11_door 78 = .ok (.iaload, 1) := by decide +kernel
theorem dX11_door_79 : decode cX11_door 79 = .ok (.ireturn, 1) := by decide +kernel
theorem dX11_door_80 : decode cX11_door 80 = .ok (.aload_n 0, 1) := by decide +kernel
theorem dX11_door_81 : decode cX11_door 81 = .ok (.getfield 74, 3) := by decide +kernel
theorem dX11_door_84 : decode cX11_door 84 = .ok (.iload_n 1, 1) := by decide +kernel
theorem dX11_door_85 : decode cX11_door 85 = .ok (.invokevirtual 139, 3) := by decide +kernel
theorem dX11_door_88 : decode cX11_door 88 = .ok (.ifCond .eq 7, 3) := by decide +kernel
theorem dX11_door_91 : decode cX11_door 91 = .ok (.iconst 1, 1) := by decide +kernel
theorem dX11_door_92 : decode cX11_door 92 = .ok (.goto 4, 3) := by decide +kernel
theorem dX11_door_95 : decode cX11_door 95 = .ok (.iconst 0, 1) := by decide +kernel
theorem dX11_door_96 : decode cX11_door 96 = .ok (.ireturn, 1) := by decide +kernel
theorem dX11_door_97 : decode cX11_door 97 = .ok (.aload_n 0, 1) := by decide +kernel
theorem dX11_door_98 : decode cX11_door 98 = .ok (.getfield 74, 3) := by decide +kernel
theorem dX11_door_101 : decode cX11_door 101 = .ok (.getfield 143, 3) := by decide +kernel
theorem dX11_door_104 : decode cX11_door 104 = .ok (.iload_n 1, 1) := by decide +kernel
theorem dX11_door_105 : decode cX11_door 105 = .ok (.iaload, 1) := by decide +kernel
theorem dX11_door_106 : decode cX11_door 106 = .ok (.ireturn, 1) := by decide +kernel
theorem dX11_door_107 : decode cX11_door 107 = .ok (.aload_n 0, 1) := by decide +kernel
theorem dX11_door_108 : decode cX11_door 108 = .ok (.getfield 74, 3) := by decide +kernel
theorem dX11_door_111 : decode cX11_door 111 = .ok (.invokevirtual 110, 3) := by decide +kernel
theorem dX11_door_114 : decode cX11_door 114 = .ok (.iload_n 1, 1) := by decide +kernel
theorem dX11_door_115 : decode cX11_door 115 = .ok (.ishr, 1) := by decide +kernel
theorem dX11_door_116 : decode cX11_door 116 = .ok (.iconst 1, 1) := by decide +kernel
theorem dX11_door_117 : decode cX11_door 117 = .ok (.iand, 1) := by decide +kernel
theorem dX11_door_118 : decode cX11_door 118 = .ok (.ireturn, 1) := by decide +kernel
theorem dX11_door_119 : decode cX11_door 119 = .ok (.aload_n 0, 1) := by decide +kernel
theorem dX11_door_120 : decode cX11_door 120 = .ok (.getfield 74, 3) := by decide +kernel
theorem dX11_door_123 : decode cX11_door 123 = .ok (.iload_n 1, 1) := by decide +kernel
theorem dX11_door_124 : decode cX11_door 124 = .ok (.invokevirtual 146, 3) := by decide +kernel
theorem dX11_door_127 : decode cX11_door 127 = .ok (.ireturn, 1) := by decide +kernel
theorem dX11_door_128 : decode cX11_door 128 = .ok (.aload_n 0, 1) := by decide +kernel
theorem dX11_door_129 : decode cX11_door 129 = .ok (.getfield 74, 3) := by decide +kernel
theorem dX11_door_132 : decode cX11_door 132 = .ok (.getfield 149, 3) := by decide +kernel
theorem dX11_door_135 : decode cX11_door 135 = .ok (.iload_n 1, 1) := by decide +kernel
theorem dX11_door_136 : decode cX11_door 136 = .ok (.ishr, 1) := by decide +kernel
theorem dX11_door_137 : decode cX11_door 137 = .ok (.iconst 1, 1) := by decide +kernel
theorem dX11_door_138 : decode cX11_door 138 = .ok (.iand, 1) := by decide +kernel
theorem dX11_door_139 : decode cX11_door 139 = .ok (.ireturn, 1) := by decide +kernel
theorem dX11_door_140 : decode cX11_door 140 = .ok (.aload_n 0, 1) := by decide +kernel
theorem dX11_door_141 : decode cX11_door 141 = .ok (.getfield 74, 3) := by decide +kernel
theorem dX11_door_144 : decode cX11_door 144 = .ok (.invokevirtual 119, 3) := by decide +kernel
theorem dX11_door_147 : decode cX11_door 147 = .ok (.iload_n 1, 1) := by decide +kernel
theorem dX11_door_148 : decode cX11_door 148 = .ok (.ishr, 1) := by decide +kernel
theorem dX11_door_149 : decode cX11_door 149 = .ok (.iconst 1, 1) := by decide +kernel
theorem dX11_door_150 : decode cX11_door 150 = .ok (.iand, 1) := by decide +kernel
theorem dX11_door_151 : decode cX11_door 151 = .ok (.ireturn, 1) := by decide +kernel
theorem dX11_door_152 : decode cX11_door 152 = .ok (.iconst (-1), 1) := by decide +kernel
theorem dX11_door_153 : decode cX11_door 153 = .ok (.ireturn, 1) := by decide +kernel
theorem dX11_key_0 : decode cX11_key 0 = .ok (.aload_n 0, 1) := by decide +kernel
theorem dX11_key_1 : decode cX11_key 1 = .ok (.getfield 74, 3) := by decide +kernel
theorem dX11_key_4 : decode cX11_key 4 = .ok (.iconst 2, 1) := by decide +kernel
theorem dX11_key_5 : decode cX11_key 5 = .ok (.iload_n 1, 1) := by decide +kernel
theorem dX11_key_6 : decode cX11_key 6 = .ok (.invokevirtual 125, 3) := by decide +kernel
theorem dX11_key_9 : decode cX11_key 9 = .ok (.ifCond .ne 5, 3) := by decide +kernel
theorem dX11_key_12 : decode cX11_key 12 = .ok (.iconst (-1), 1) := by decide +kernel
theorem dX11_key_13 : decode cX11_key 13 = .ok (.ireturn, 1) := by decide +kernel
theorem dX11_key_14 : decode cX11_key 14 = .ok (.iload_n 2, 1) := by decide +kernel
theorem dX11_key_15 : decode cX11_key 15 = .ok (.tableswitch 63 0 2 #[25, 38, 51], 25) := by decide +kernel
theorem dX11_key_40 : decode cX11_key 40 = .ok (.aload_n 0, 1) := by decide +kernel
theorem dX11_key_41 : decode cX11_key 41 = .ok (.getfield 74, 3) := by decide +kernel
theorem dX11_key_44 : decode cX11_key 44 = .ok (.getfield 152, 3) := by decide +kernel
theorem dX11_key_47 : decode cX11_key 47 = .ok (.getfield 155, 3) := by decide +kernel
theorem dX11_key_50 : decode cX11_key 50 = .ok (.iload_n 1, 1) := by decide +kernel
theorem dX11_key_51 : decode cX11_key 51 = .ok (.iaload, 1) := by decide +kernel
theorem dX11_key_52 : decode cX11_key 52 = .ok (.ireturn, 1) := by decide +kernel
theorem dX11_key_53 : decode cX11_key 53 = .ok (.aload_n 0, 1) := by decide +kernel
theorem dX11_key_54 : decode cX11_key 54 = .ok (.getfield 74, 3) := by decide +kernel
theorem dX11_key_57 : decode cX11_key 57 = .ok (.getfield 152, 3) := by decide +kernel
theorem dX11_key_60 : decode cX11_key 60 = .ok (.getfield 158, 3) := by decide +kernel
theorem dX11_key_63 : decode cX11_key 63 = .ok (.iload_n 1, 1) := by decide +kernel
theorem dX11_key_64 : decode cX11_key 64 = .ok (.iaload, 1) := by decide +kernel
theorem dX11_key_65 : decode cX11_key 65 = .ok (.ireturn, 1) := by decide +kernel
theorem dX11_key_66 : decode cX11_key 66 = .ok (.aload_n 0, 1) := by decide +kernel
theorem dX11_key_67 : decode cX11_key 67 = .ok (.getfield 74, 3) := by decide +kernel
theorem dX11_key_70 : decode cX11_key 70 = .ok (.getfield 152, 3) := by decide +kernel
theorem dX11_key_73 : decode cX11_key 73 = .ok (.iload_n 1, 1) := by decide +kernel
theorem dX11_key_74 : decode cX11_key 74 = .ok (.invokevirtual 161, 3) := by decide +kernel
theorem dX11_key_77 : decode cX11_key 77 = .ok (.ireturn, 1) := by decide +kernel
theorem dX11_key_78 : decode cX11_key 78 = .ok (.iconst (-1), 1) := by decide +kernel
theorem dX11_key_79 : decode cX11_key 79 = .ok (.ireturn, 1) := by decide +kernel
theorem dX11_in_0 : decode cX11_in 0 = .ok (.aload_n 0, 1) := by decide +kernel
theorem dX11_in_1 : decode cX11_in 1 = .ok (.getfield 74, 3) := by decide +kernel
theorem dX11_in_4 : decode cX11_in 4 = .ok (.iconst 2, 1) := by decide +kernel
theorem dX11_in_5 : decode cX11_in 5 = .ok (.iload_n 1, 1) := by decide +kernel
theorem dX11_in_6 : decode cX11_in 6 = .ok (.invokevirtual 125, 3) := by decide +kernel
theorem dX11_in_9 : decode cX11_in 9 = .ok (.ifCond .ne 5, 3) := by decide +kernel
theorem dX11_in_12 : decode cX11_in 12 = .ok (.iconst (-1), 1) := by decide +kernel
theorem dX11_in_13 : decode cX11_in 13 = .ok (.ireturn, 1) := by decide +kernel
theorem dX11_in_14 : decode cX11_in 14 = .ok (.aload_n 0, 1) := by decide +kernel
theorem dX11_in_15 : decode cX11_in 15 = .ok (.getfield 74, 3) := by decide +kernel
theorem dX11_in_18 : decode cX11_in 18 = .ok (.getfield 152, 3) := by decide +kernel
theorem dX11_in_21 : decode cX11_in 21 = .ok (.iload_n 1, 1) := by decide +kernel
theorem dX11_in_22 : decode cX11_in 22 = .ok (.iload_n 2, 1) := by decide +kernel
theorem dX11_in_23 : decode cX11_in 23 = .ok (.invokevirtual 164, 3) := by decide +kernel
theorem dX11_in_26 : decode cX11_in 26 = .ok (.ireturn, 1) := by decide +kernel
theorem dX11_person_0 : decode cX11_person 0 = .ok (.aload_n 0, 1) := by decide +kernel
theorem dX11_person_1 : decode cX11_person 1 = .ok (.getfield 74, 3) := by decide +kernel
theorem dX11_person_4 : decode cX11_person 4 = .ok (.iconst 3, 1) := by decide +kernel
theorem dX11_person_5 : decode cX11_person 5 = .ok (.iload_n 1, 1) := by decide +kernel
theorem dX11_person_6 : decode cX11_person 6 = .ok (.invokevirtual 125, 3) := by decide +kernel
theorem dX11_person_9 : decode cX11_person 9 = .ok (.ifCond .ne 5, 3) := by decide +kernel
theorem dX11_person_12 : decode cX11_person 12 = .ok (.iconst (-1), 1) := by decide +kernel
theorem dX11_person_13 : decode cX11_person 13 = .ok (.ireturn, 1) := by decide +kernel
theorem dX11_person_14 : decode cX11_person 14 = .ok (.iload_n 2, 1) := by decide +kernel
theorem dX11_person_15 : decode cX11_person 15 = .ok (.tableswitch 80 0 3 #[29, 42, 51, 67], 29) := by decide +kernel
theorem dX11_person_44 : decode cX11_person 44 = .ok (.aload_n 0, 1) := by decide +kernel
theorem dX11_person_45 : decode cX11_person 45 = .ok (.getfield 74, 3) := by decide +kernel
theorem dX11_person_48 : decode cX11_person 48 = .ok (.getfield 152, 3) := by decide +kernel
theorem dX11_person_51 : decode cX11_person 51 = .ok (.getfield 168, 3) := by decide +kernel
theorem dX11_person_54 : decode cX11_person 54 = .ok (.iload_n 1, 1) := by decide +kernel
theorem dX11_person_55 : decode cX11_person 55 = .ok (.iaload, 1) := by decide +kernel
theorem dX11_person_56 : decode cX11_person 56 = .ok (.ireturn, 1) := by decide +kernel
theorem dX11_person_57 : decode cX11_person 57 = .ok (.aload_n 0, 1) := by decide +kernel
theorem dX11_person_58 : decode cX11_person 58 = .ok (.getfield 74, 3) := by decide +kernel
theorem dX11_person_61 : decode cX11_person 61 = .ok (.iload_n 1, 1) := by decide +kernel
theorem dX11_person_62 : decode cX11_person 62 = .ok (.invokevirtual 171, 3) := by decide +kernel
theorem dX11_person_65 : decode cX11_person 65 = .ok (.ireturn, 1) := by decide +kernel
theorem dX11_person_66 : decode cX11_person 66 = .ok (.aload_n 0, 1) := by decide +kernel
theorem dX11_person_67 : decode cX11_person 67 = .ok (.getfield 28, 3) := by decide +kernel
theorem dX11_person_70 : decode cX11_person 70 = .ok (.aload_n 0, 1) := by decide +kernel
theorem dX11_person_71 : decode cX11_person 71 = .ok (.getfield 74, 3) := by decide +kernel
theorem dX11_person_74 : decode cX11_person 74 = .ok (.iload_n 1, 1) := by decide +kernel
theorem dX11_person_75 : decode cX11_person 75 = .ok (.invokevirtual 174, 3) := by decide +kernel
theorem dX11_person_78 : decode cX11_person 78 = .ok (.invokestatic 114, 3) := by decide +kernel
theorem dX11_person_81 : decode cX11_person 81 = .ok (.ireturn, 1) := by decide +kernel
theorem dX11_person_82 : decode cX11_person 82 = .ok (.aload_n 0, 1) := by decide +kernel
theorem dX11_person_83 : decode cX11_person 83 = .ok (.getfield 28, 3) := by decide +kernel
theorem dX11_person_86 : decode cX11_person 86 = .ok (.aload_n 0, 1) := by decide +kernel
theorem dX11_person_87 : decode cX11_person 87 = .ok (.getfield 74, 3) := by decide +kernel
theorem dX11_person_90 : decode cX11_person 90 = .ok (.iload_n 1, 1) := by decide +kernel
theorem dX11_person_91 : decode cX11_person 91 = .ok (.invokevirtual 174, 3) := by decide +kernel
theorem dX11_person_94 : decode cX11_person 94 = .ok (.ireturn, 1) := by decide +kernel
theorem dX11_person_95 : decode cX11_person 95 = .ok (.iconst (-1), 1) := by decide +kernel
theorem dX11_person_96 : decode cX11_person 96 = .ok (.ireturn, 1) := by decide +kernel
theorem dX11_go_0 : decode cX11_go 0 = .ok (.aload_n 0, 1) := by decide +kernel
theorem dX11_go_1 : decode cX11_go 1 = .ok (.aload_n 0, 1) := by decide +kernel
theorem dX11_go_2 : decode cX11_go 2 = .ok (.getfield 74, 3) := by decide +kernel
theorem dX11_go_5 : decode cX11_go 5 = .ok (.iload_n 1, 1) := by decide +kernel
theorem dX11_go_6 : decode cX11_go 6 = .ok (.iload_n 2, 1) := by decide +kernel
theorem dX11_go_7 : decode cX11_go 7 = .ok (.invokevirtual 178, 3) := by decide +kernel
theorem dX11_go_10 : decode cX11_go 10 = .ok (.invokevirtual 181, 3) := by decide +kernel
theorem dX11_go_13 : decode cX11_go 13 = .ok (.ireturn, 1) := by decide +kernel
theorem dX11_open_0 : decode cX11_open 0 = .ok (.aload_n 0, 1) := by decide +kernel
theorem dX11_open_1 : decode cX11_open 1 = .ok (.aload_n 0, 1) := by decide +kernel
theorem dX11_open_2 : decode cX11_open 2 = .ok (.getfield 74, 3) := by decide +kernel
theorem dX11_open_5 : decode cX11_open 5 = .ok (.iload_n 1, 1) := by decide +kernel
theorem dX11_open_6 : decode cX11_open 6 = .ok (.iload_n 2, 1) := by decide +kernel
theorem dX11_open_7 : decode cX11_open 7 = .ok (.invokevirtual 184, 3) := by decide +kernel
theorem dX11_open_10 : decode cX11_open 10 = .ok (.invokevirtual 181, 3) := by decide +kernel
theorem dX11_open_13 : decode cX11_open 13 = .ok (.ireturn, 1) := by decide +kernel
theorem dX11_shut_0 : decode cX11_shut 0 = .ok (.aload_n 0, 1) := by decide +kernel
theorem dX11_shut_1 : decode cX11_shut 1 = .ok (.aload_n 0, 1) := by decide +kernel
theorem dX11_shut_2 : decode cX11_shut 2 = .ok (.getfield 74, 3) := by decide +kernel
theorem dX11_shut_5 : decode cX11_shut 5 = .ok (.iload_n 1, 1) := by decide +kernel
theorem dX11_shut_6 : decode cX11_shut 6 = .ok (.iload_n 2, 1) := by decide +kernel
theorem dX11_shut_7 : decode cX11_shut 7 = .ok (.iload_n 3, 1) := by decide +kernel
theorem dX11_shut_8 : decode cX11_shut 8 = .ok (.invokevirtual 187, 3) := by decide +kernel
theorem dX11_shut_11 : decode cX11_shut 11 = .ok (.invokevirtual 181, 3) := by decide +kernel
theorem dX11_shut_14 : decode cX11_shut 14 = .ok (.ireturn, 1) := by decide +kernel
theorem dX11_refused_0 : decode cX11_refused 0 = .ok (.iload_n 1, 1) := by decide +kernel
theorem dX11_refused_1 : decode cX11_refused 1 = .ok (.ifCond .lt 19, 3) := by decide +kernel
theorem dX11_refused_4 : decode cX11_refused 4 = .ok (.iload_n 1, 1) := by decide +kernel
theorem dX11_refused_5 : decode cX11_refused 5 = .ok (.bipush 6, 2) := by decide +kernel
theorem dX11_refused_7 : decode cX11_refused 7 = .ok (.if_icmp .ge 13, 3) := by decide +kernel
theorem dX11_refused_10 : decode cX11_refused 10 = .ok (.aload_n 0, 1) := by decide +kernel
theorem dX11_refused_11 : decode cX11_refused 11 = .ok (.getfield 67, 3) := by decide +kernel
theorem dX11_refused_14 : decode cX11_refused 14 = .ok (.iload_n 1, 1) := by decide +kernel
theorem dX11_refused_15 : decode cX11_refused 15 = .ok (.dup2, 1) := by decide +kernel
theorem dX11_refused_16 : decode cX11_refused 16 = .ok (.iaload, 1) := by decide +kernel
theorem dX11_refused_17 : decode cX11_refused 17 = .ok (.iconst 1, 1) := by decide +kernel
theorem dX11_refused_18 : decode cX11_refused 18 = .ok (.iadd, 1) := by decide +kernel
theorem dX11_refused_19 : decode cX11_refused 19 = .ok (.iastore, 1) := by decide +kernel
theorem dX11_refused_20 : decode cX11_refused 20 = .ok (.iconst (-1), 1) := by decide +kernel
theorem dX11_refused_21 : decode cX11_refused 21 = .ok (.ireturn, 1) := by decide +kernel
theorem dX11_actAnswer_0 : decode cX11_actAnswer 0 = .ok (.iload_n 1, 1) := by decide +kernel
theorem dX11_actAnswer_1 : decode cX11_actAnswer 1 = .ok (.iconst (-1), 1) := by decide +kernel
theorem dX11_actAnswer_2 : decode cX11_actAnswer 2 = .ok (.if_icmp .ne 11, 3) := by decide +kernel
theorem dX11_actAnswer_5 : decode cX11_actAnswer 5 = .ok (.aload_n 0, 1) := by decide +kernel
theorem dX11_actAnswer_6 : decode cX11_actAnswer 6 = .ok (.iconst 2, 1) := by decide +kernel
theorem dX11_actAnswer_7 : decode cX11_actAnswer 7 = .ok (.invokevirtual 85, 3) := by decide +kernel
theorem dX11_actAnswer_10 : decode cX11_actAnswer 10 = .ok (.goto 4, 3) := by decide +kernel
theorem dX11_actAnswer_13 : decode cX11_actAnswer 13 = .ok (.iload_n 1, 1) := by decide +kernel
theorem dX11_actAnswer_14 : decode cX11_actAnswer 14 = .ok (.ireturn, 1) := by decide +kernel
