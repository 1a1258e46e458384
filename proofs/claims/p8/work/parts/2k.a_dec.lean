theorem dX5_readWants_0 : decode cX5_readWants 0 = .ok (.aload_n 0, 1) := by decide +kernel
theorem dX5_readWants_1 : decode cX5_readWants 1 = .ok (.aload_n 1, 1) := by decide +kernel
theorem dX5_readWants_2 : decode cX5_readWants 2 = .ok (.iconst 3, 1) := by decide +kernel
theorem dX5_readWants_3 : decode cX5_readWants 3 = .ok (.invokevirtual 128, 3) := by decide +kernel
theorem dX5_readWants_6 : decode cX5_readWants 6 = .ok (.istore_n 2, 1) := by decide +kernel
theorem dX5_readWants_7 : decode cX5_readWants 7 = .ok (.iload_n 2, 1) := by decide +kernel
theorem dX5_readWants_8 : decode cX5_readWants 8 = .ok (.iconst (-1), 1) := by decide +kernel
theorem dX5_readWants_9 : decode cX5_readWants 9 = .ok (.if_icmp .ne 5, 3) := by decide +kernel
theorem dX5_readWants_12 : decode cX5_readWants 12 = .ok (.iconst 0, 1) := by decide +kernel
theorem dX5_readWants_13 : decode cX5_readWants 13 = .ok (.ireturn, 1) := by decide +kernel
theorem dX5_readWants_14 : decode cX5_readWants 14 = .ok (.aload_n 1, 1) := by decide +kernel
theorem dX5_readWants_15 : decode cX5_readWants 15 = .ok (.getfield 159, 3) := by decide +kernel
theorem dX5_readWants_18 : decode cX5_readWants 18 = .ok (.iload_n 2, 1) := by decide +kernel
theorem dX5_readWants_19 : decode cX5_readWants 19 = .ok (.iaload, 1) := by decide +kernel
theorem dX5_readWants_20 : decode cX5_readWants 20 = .ok (.invokestatic 162, 3) := by decide +kernel
theorem dX5_readWants_23 : decode cX5_readWants 23 = .ok (.iconst 2, 1) := by decide +kernel
theorem dX5_readWants_24 : decode cX5_readWants 24 = .ok (.if_icmp .lt 9, 3) := by decide +kernel
theorem dX5_readWants_27 : decode cX5_readWants 27 = .ok (.aload_n 0, 1) := by decide +kernel
theorem dX5_readWants_28 : decode cX5_readWants 28 = .ok (.iconst 3, 1) := by decide +kernel
theorem dX5_readWants_29 : decode cX5_readWants 29 = .ok (.invokevirtual 132, 3) := by decide +kernel
theorem dX5_readWants_32 : decode cX5_readWants 32 = .ok (.ireturn, 1) := by decide +kernel
theorem dX5_readWants_33 : decode cX5_readWants 33 = .ok (.aload_n 0, 1) := by decide +kernel
theorem dX5_readWants_34 : decode cX5_readWants 34 = .ok (.aload_n 1, 1) := by decide +kernel
theorem dX5_readWants_35 : decode cX5_readWants 35 = .ok (.iconst 4, 1) := by decide +kernel
theorem dX5_readWants_36 : decode cX5_readWants 36 = .ok (.invokevirtual 128, 3) := by decide +kernel
theorem dX5_readWants_39 : decode cX5_readWants 39 = .ok (.istore_n 3, 1) := by decide +kernel
theorem dX5_readWants_40 : decode cX5_readWants 40 = .ok (.iload_n 3, 1) := by decide +kernel
theorem dX5_readWants_41 : decode cX5_readWants 41 = .ok (.iconst (-1), 1) := by decide +kernel
theorem dX5_readWants_42 : decode cX5_readWants 42 = .ok (.if_icmp .ne 5, 3) := by decide +kernel
theorem dX5_readWants_45 : decode cX5_readWants 45 = .ok (.iconst 0, 1) := by decide +kernel
theorem dX5_readWants_46 : decode cX5_readWants 46 = .ok (.ireturn, 1) := by decide +kernel
theorem dX5_readWants_47 : decode cX5_readWants 47 = .ok (.aload_n 1, 1) := by decide +kernel
theorem dX5_readWants_48 : decode cX5_readWants 48 = .ok (.getfield 159, 3) := by decide +kernel
theorem dX5_readWants_51 : decode cX5_readWants 51 = .ok (.iload_n 2, 1) := by decide +kernel
theorem dX5_readWants_52 : decode cX5_readWants 52 = .ok (.iaload, 1) := by decide +kernel
theorem dX5_readWants_53 : decode cX5_readWants 53 = .ok (.iload_n 3, 1) := by decide +kernel
theorem dX5_readWants_54 : decode cX5_readWants 54 = .ok (.ishr, 1) := by decide +kernel
theorem dX5_readWants_55 : decode cX5_readWants 55 = .ok (.iconst 1, 1) := by decide +kernel
theorem dX5_readWants_56 : decode cX5_readWants 56 = .ok (.iand, 1) := by decide +kernel
theorem dX5_readWants_57 : decode cX5_readWants 57 = .ok (.ifCond .eq 9, 3) := by decide +kernel
theorem dX5_readWants_60 : decode cX5_readWants 60 = .ok (.aload_n 0, 1) := by decide +kernel
theorem dX5_readWants_61 : decode cX5_readWants 61 = .ok (.iconst 3, 1) := by decide +kernel
theorem dX5_readWants_62 : decode cX5_readWants 62 = .ok (.invokevirtual 132, 3) := by decide +kernel
theorem dX5_readWants_65 : decode cX5_readWants 65 = .ok (.ireturn, 1) := by decide +kernel
theorem dX5_readWants_66 : decode cX5_readWants 66 = .ok (.aload_n 1, 1) := by decide +kernel
theorem dX5_readWants_67 : decode cX5_readWants 67 = .ok (.getfield 159, 3) := by decide +kernel
theorem dX5_readWants_70 : decode cX5_readWants 70 = .ok (.iload_n 2, 1) := by decide +kernel
theorem dX5_readWants_71 : decode cX5_readWants 71 = .ok (.dup2, 1) := by decide +kernel
theorem dX5_readWants_72 : decode cX5_readWants 72 = .ok (.iaload, 1) := by decide +kernel
theorem dX5_readWants_73 : decode cX5_readWants 73 = .ok (.iconst 1, 1) := by decide +kernel
theorem dX5_readWants_74 : decode cX5_readWants 74 = .ok (.iload_n 3, 1) := by decide +kernel
theorem dX5_readWants_75 : decode cX5_readWants 75 = .ok (.ishl, 1) := by decide +kernel
theorem dX5_readWants_76 : decode cX5_readWants 76 = .ok (.ior, 1) := by decide +kernel
theorem dX5_readWants_77 : decode cX5_readWants 77 = .ok (.iastore, 1) := by decide +kernel
theorem dX5_readWants_78 : decode cX5_readWants 78 = .ok (.aload_n 1, 1) := by decide +kernel
theorem dX5_readWants_79 : decode cX5_readWants 79 = .ok (.getfield 115, 3) := by decide +kernel
theorem dX5_readWants_82 : decode cX5_readWants 82 = .ok (.iconst 5, 1) := by decide +kernel
theorem dX5_readWants_83 : decode cX5_readWants 83 = .ok (.dup2, 1) := by decide +kernel
theorem dX5_readWants_84 : decode cX5_readWants 84 = .ok (.iaload, 1) := by decide +kernel
theorem dX5_readWants_85 : decode cX5_readWants 85 = .ok (.iconst 1, 1) := by decide +kernel
theorem dX5_readWants_86 : decode cX5_readWants 86 = .ok (.iadd, 1) := by decide +kernel
theorem dX5_readWants_87 : decode cX5_readWants 87 = .ok (.iastore, 1) := by decide +kernel
theorem dX5_readWants_88 : decode cX5_readWants 88 = .ok (.iconst 1, 1) := by decide +kernel
theorem dX5_readWants_89 : decode cX5_readWants 89 = .ok (.ireturn, 1) := by decide +kernel
theorem dX5_readMust_0 : decode cX5_readMust 0 = .ok (.aload_n 0, 1) := by decide +kernel
theorem dX5_readMust_1 : decode cX5_readMust 1 = .ok (.aload_n 1, 1) := by decide +kernel
theorem dX5_readMust_2 : decode cX5_readMust 2 = .ok (.iconst 1, 1) := by decide +kernel
theorem dX5_readMust_3 : decode cX5_readMust 3 = .ok (.invokevirtual 128, 3) := by decide +kernel
theorem dX5_readMust_6 : decode cX5_readMust 6 = .ok (.istore_n 2, 1) := by decide +kernel
theorem dX5_readMust_7 : decode cX5_readMust 7 = .ok (.iload_n 2, 1) := by decide +kernel
theorem dX5_readMust_8 : decode cX5_readMust 8 = .ok (.iconst (-1), 1) := by decide +kernel
theorem dX5_readMust_9 : decode cX5_readMust 9 = .ok (.if_icmp .ne 7, 3) := by decide +kernel
theorem dX5_readMust_12 : decode cX5_readMust 12 = .ok (.iconst (-1), 1) := by decide +kernel
theorem dX5_readMust_13 : decode cX5_readMust 13 = .ok (.goto 11, 3) := by decide +kernel
theorem dX5_readMust_16 : decode cX5_readMust 16 = .ok (.aload_n 0, 1) := by decide +kernel
theorem dX5_readMust_17 : decode cX5_readMust 17 = .ok (.iconst 0, 1) := by decide +kernel
theorem dX5_readMust_18 : decode cX5_readMust 18 = .ok (.sipush 1439, 3) := by decide +kernel
theorem dX5_readMust_21 : decode cX5_readMust 21 = .ok (.invokevirtual 136, 3) := by decide +kernel
theorem dX5_readMust_24 : decode cX5_readMust 24 = .ok (.istore_n 3, 1) := by decide +kernel
theorem dX5_readMust_25 : decode cX5_readMust 25 = .ok (.iload_n 3, 1) := by decide +kernel
theorem dX5_readMust_26 : decode cX5_readMust 26 = .ok (.iconst (-1), 1) := by decide +kernel
theorem dX5_readMust_27 : decode cX5_readMust 27 = .ok (.if_icmp .ne 7, 3) := by decide +kernel
theorem dX5_readMust_30 : decode cX5_readMust 30 = .ok (.iconst (-1), 1) := by decide +kernel
theorem dX5_readMust_31 : decode cX5_readMust 31 = .ok (.goto 11, 3) := by decide +kernel
theorem dX5_readMust_34 : decode cX5_readMust 34 = .ok (.aload_n 0, 1) := by decide +kernel
theorem dX5_readMust_35 : decode cX5_readMust 35 = .ok (.iload_n 3, 1) := by decide +kernel
theorem dX5_readMust_36 : decode cX5_readMust 36 = .ok (.sipush 1439, 3) := by decide +kernel
theorem dX5_readMust_39 : decode cX5_readMust 39 = .ok (.invokevirtual 136, 3) := by decide +kernel
theorem dX5_readMust_42 : decode cX5_readMust 42 = .ok (.istore 4, 2) := by decide +kernel
theorem dX5_readMust_44 : decode cX5_readMust 44 = .ok (.iload 4, 2) := by decide +kernel
theorem dX5_readMust_46 : decode cX5_readMust 46 = .ok (.iconst (-1), 1) := by decide +kernel
theorem dX5_readMust_47 : decode cX5_readMust 47 = .ok (.if_icmp .eq 18, 3) := by decide +kernel
theorem dX5_readMust_50 : decode cX5_readMust 50 = .ok (.aload_n 1, 1) := by decide +kernel
theorem dX5_readMust_51 : decode cX5_readMust 51 = .ok (.iload_n 2, 1) := by decide +kernel
theorem dX5_readMust_52 : decode cX5_readMust 52 = .ok (.iload_n 3, 1) := by decide +kernel
theorem dX5_readMust_53 : decode cX5_readMust 53 = .ok (.iload 4, 2) := by decide +kernel
theorem dX5_readMust_55 : decode cX5_readMust 55 = .ok (.invokevirtual 167, 3) := by decide +kernel
theorem dX5_readMust_58 : decode cX5_readMust 58 = .ok (.ifCond .eq 7, 3) := by decide +kernel
theorem dX5_readMust_61 : decode cX5_readMust 61 = .ok (.iconst 1, 1) := by decide +kernel
theorem dX5_readMust_62 : decode cX5_readMust 62 = .ok (.goto 4, 3) := by decide +kernel
theorem dX5_readMust_65 : decode cX5_readMust 65 = .ok (.iconst 0, 1) := by decide +kernel
theorem dX5_readMust_66 : decode cX5_readMust 66 = .ok (.ireturn, 1) := by decide +kernel
theorem dX5_readBar_0 : decode cX5_readBar 0 = .ok (.aload_n 0, 1) := by decide +kernel
theorem dX5_readBar_1 : decode cX5_readBar 1 = .ok (.aload_n 1, 1) := by decide +kernel
theorem dX5_readBar_2 : decode cX5_readBar 2 = .ok (.iconst 1, 1) := by decide +kernel
theorem dX5_readBar_3 : decode cX5_readBar 3 = .ok (.invokevirtual 128, 3) := by decide +kernel
theorem dX5_readBar_6 : decode cX5_readBar 6 = .ok (.istore_n 2, 1) := by decide +kernel
theorem dX5_readBar_7 : decode cX5_readBar 7 = .ok (.iload_n 2, 1) := by decide +kernel
theorem dX5_readBar_8 : decode cX5_readBar 8 = .ok (.iconst (-1), 1) := by decide +kernel
theorem dX5_readBar_9 : decode cX5_readBar 9 = .ok (.if_icmp .ne 5, 3) := by decide +kernel
theorem dX5_readBar_12 : decode cX5_readBar 12 = .ok (.iconst 0, 1) := by decide +kernel
theorem dX5_readBar_13 : decode cX5_readBar 13 = .ok (.ireturn, 1) := by decide +kernel
theorem dX5_readBar_14 : decode cX5_readBar 14 = .ok (.aload_n 1, 1) := by decide +kernel
theorem dX5_readBar_15 : decode cX5_readBar 15 = .ok (.iload_n 2, 1) := by decide +kernel
theorem dX5_readBar_16 : decode cX5_readBar 16 = .ok (.invokevirtual 171, 3) := by decide +kernel
theorem dX5_readBar_19 : decode cX5_readBar 19 = .ok (.ifCond .eq 9, 3) := by decide +kernel
theorem dX5_readBar_22 : decode cX5_readBar 22 = .ok (.aload_n 0, 1) := by decide +kernel
theorem dX5_readBar_23 : decode cX5_readBar 23 = .ok (.iconst 3, 1) := by decide +kernel
theorem dX5_readBar_24 : decode cX5_readBar 24 = .ok (.invokevirtual 132, 3) := by decide +kernel
theorem dX5_readBar_27 : decode cX5_readBar 27 = .ok (.ireturn, 1) := by decide +kernel
theorem dX5_readBar_28 : decode cX5_readBar 28 = .ok (.aload_n 1, 1) := by decide +kernel
theorem dX5_readBar_29 : decode cX5_readBar 29 = .ok (.getfield 174, 3) := by decide +kernel
theorem dX5_readBar_32 : decode cX5_readBar 32 = .ok (.getfield 178, 3) := by decide +kernel
theorem dX5_readBar_35 : decode cX5_readBar 35 = .ok (.istore_n 3, 1) := by decide +kernel
theorem dX5_readBar_36 : decode cX5_readBar 36 = .ok (.aload_n 0, 1) := by decide +kernel
theorem dX5_readBar_37 : decode cX5_readBar 37 = .ok (.iconst 0, 1) := by decide +kernel
theorem dX5_readBar_38 : decode cX5_readBar 38 = .ok (.putfield 22, 3) := by decide +kernel
theorem dX5_readBar_41 : decode cX5_readBar 41 = .ok (.aload_n 0, 1) := by decide +kernel
theorem dX5_readBar_42 : decode cX5_readBar 42 = .ok (.bipush 15, 2) := by decide +kernel
theorem dX5_readBar_44 : decode cX5_readBar 44 = .ok (.invokevirtual 144, 3) := by decide +kernel
theorem dX5_readBar_47 : decode cX5_readBar 47 = .ok (.ifCond .eq 34, 3) := by decide +kernel
theorem dX5_readBar_50 : decode cX5_readBar 50 = .ok (.aload_n 0, 1) := by decide +kernel
theorem dX5_readBar_51 : decode cX5_readBar 51 = .ok (.aload_n 1, 1) := by decide +kernel
theorem dX5_readBar_52 : decode cX5_readBar 52 = .ok (.getfield 174, 3) := by decide +kernel
theorem dX5_readBar_55 : decode cX5_readBar 55 = .ok (.invokevirtual 183, 3) := by decide +kernel
theorem dX5_readBar_58 : decode cX5_readBar 58 = .ok (.ifCond .eq 23, 3) := by decide +kernel
theorem dX5_readBar_61 : decode cX5_readBar 61 = .ok (.aload_n 1, 1) := by decide +kernel
theorem dX5_readBar_62 : decode cX5_readBar 62 = .ok (.iload_n 2, 1) := by decide +kernel
theorem dX5_readBar_63 : decode cX5_readBar 63 = .ok (.iload_n 3, 1) := by decide +kernel
theorem dX5_readBar_64 : decode cX5_readBar 64 = .ok (.aload_n 1, 1) := by decide +kernel
theorem dX5_readBar_65 : decode cX5_readBar 65 = .ok (.getfield 174, 3) := by decide +kernel
theorem dX5_readBar_68 : decode cX5_readBar 68 = .ok (.getfield 178, 3) := by decide +kernel
theorem dX5_readBar_71 : decode cX5_readBar 71 = .ok (.invokevirtual 187, 3) := by decide +kernel
theorem dX5_readBar_74 : decode cX5_readBar 74 = .ok (.ifCond .eq 7, 3) := by decide +kernel
theorem dX5_readBar_77 : decode cX5_readBar 77 = .ok (.iconst 1, 1) := by decide +kernel
theorem dX5_readBar_78 : decode cX5_readBar 78 = .ok (.goto 4, 3) := by decide +kernel
theorem dX5_readBar_81 : decode cX5_readBar 81 = .ok (.iconst 0, 1) := by decide +kernel
theorem dX5_readBar_82 : decode cX5_readBar 82 = .ok (.ireturn, 1) := by decide +kernel
theorem dX5_newName_0 : decode cX5_newName 0 = .ok (.aload_n 0, 1) := by decide +kernel
theorem dX5_newName_1 : decode cX5_newName 1 = .ok (.invokevirtual 244, 3) := by decide +kernel
theorem dX5_newName_4 : decode cX5_newName 4 = .ok (.ifCond .ne 9, 3) := by decide +kernel
theorem dX5_newName_7 : decode cX5_newName 7 = .ok (.aload_n 0, 1) := by decide +kernel
theorem dX5_newName_8 : decode cX5_newName 8 = .ok (.iconst 1, 1) := by decide +kernel
theorem dX5_newName_9 : decode cX5_newName 9 = .ok (.invokevirtual 121, 3) := by decide +kernel
theorem dX5_newName_12 : decode cX5_newName 12 = .ok (.ireturn, 1) := by decide +kernel
theorem dX5_newName_13 : decode cX5_newName 13 = .ok (.aload_n 0, 1) := by decide +kernel
theorem dX5_newName_14 : decode cX5_newName 14 = .ok (.getfield 30, 3) := by decide +kernel
theorem dX5_newName_17 : decode cX5_newName 17 = .ok (.invokevirtual 125, 3) := by decide +kernel
theorem dX5_newName_20 : decode cX5_newName 20 = .ok (.iconst 0, 1) := by decide +kernel
theorem dX5_newName_21 : decode cX5_newName 21 = .ok (.istore_n 2, 1) := by decide +kernel
theorem dX5_newName_22 : decode cX5_newName 22 = .ok (.iload_n 2, 1) := by decide +kernel
theorem dX5_newName_23 : decode cX5_newName 23 = .ok (.iconst 5, 1) := by decide +kernel
theorem dX5_newName_24 : decode cX5_newName 24 = .ok (.if_icmp .ge 31, 3) := by decide +kernel
theorem dX5_newName_27 : decode cX5_newName 27 = .ok (.aload_n 1, 1) := by decide +kernel
theorem dX5_newName_28 : decode cX5_newName 28 = .ok (.iload_n 2, 1) := by decide +kernel
theorem dX5_newName_29 : decode cX5_newName 29 = .ok (.aload_n 0, 1) := by decide +kernel
theorem dX5_newName_30 : decode cX5_newName 30 = .ok (.getfield 30, 3) := by decide +kernel
theorem dX5_newName_33 : decode cX5_newName 33 = .ok (.getfield 112, 3) := by decide +kernel
theorem dX5_newName_36 : decode cX5_newName 36 = .ok (.invokevirtual 247, 3) := by decide +kernel
theorem dX5_newName_39 : decode cX5_newName 39 = .ok (.iconst (-1), 1) := by decide +kernel
theorem dX5_newName_40 : decode cX5_newName 40 = .ok (.if_icmp .eq 9, 3) := by decide +kernel
theorem dX5_newName_43 : decode cX5_newName 43 = .ok (.aload_n 0, 1) := by decide +kernel
theorem dX5_newName_44 : decode cX5_newName 44 = .ok (.iconst 2, 1) := by decide +kernel
theorem dX5_newName_45 : decode cX5_newName 45 = .ok (.invokevirtual 121, 3) := by decide +kernel
theorem dX5_newName_48 : decode cX5_newName 48 = .ok (.ireturn, 1) := by decide +kernel
theorem dX5_newName_49 : decode cX5_newName 49 = .ok (.iinc 2 1, 3) := by decide +kernel
theorem dX5_newName_52 : decode cX5_newName 52 = .ok (.goto (-30), 3) := by decide +kernel
theorem dX5_newName_55 : decode cX5_newName 55 = .ok (.aload_n 0, 1) := by decide +kernel
theorem dX5_newName_56 : decode cX5_newName 56 = .ok (.getfield 30, 3) := by decide +kernel
theorem dX5_newName_59 : decode cX5_newName 59 = .ok (.getfield 112, 3) := by decide +kernel
theorem dX5_newName_62 : decode cX5_newName 62 = .ok (.ireturn, 1) := by decide +kernel
theorem dX5_askedSpot_0 : decode cX5_askedSpot 0 = .ok (.aload_n 0, 1) := by decide +kernel
theorem dX5_askedSpot_1 : decode cX5_askedSpot 1 = .ok (.invokevirtual 244, 3) := by decide +kernel
theorem dX5_askedSpot_4 : decode cX5_askedSpot 4 = .ok (.ifCond .ne 9, 3) := by decide +kernel
theorem dX5_askedSpot_7 : decode cX5_askedSpot 7 = .ok (.aload_n 0, 1) := by decide +kernel
theorem dX5_askedSpot_8 : decode cX5_askedSpot 8 = .ok (.iconst 1, 1) := by decide +kernel
theorem dX5_askedSpot_9 : decode cX5_askedSpot 9 = .ok (.invokevirtual 121, 3) := by decide +kernel
theorem dX5_askedSpot_12 : decode cX5_askedSpot 12 = .ok (.ireturn, 1) := by decide +kernel
theorem dX5_askedSpot_13 : decode cX5_askedSpot 13 = .ok (.aload_n 0, 1) := by decide +kernel
theorem dX5_askedSpot_14 : decode cX5_askedSpot 14 = .ok (.getfield 30, 3) := by decide +kernel
theorem dX5_askedSpot_17 : decode cX5_askedSpot 17 = .ok (.invokevirtual 125, 3) := by decide +kernel
theorem dX5_askedSpot_20 : decode cX5_askedSpot 20 = .ok (.aload_n 1, 1) := by decide +kernel
theorem dX5_askedSpot_21 : decode cX5_askedSpot 21 = .ok (.iconst 0, 1) := by decide +kernel
theorem dX5_askedSpot_22 : decode cX5_askedSpot 22 = .ok (.aload_n 0, 1) := by decide +kernel
theorem dX5_askedSpot_23 : decode cX5_askedSpot 23 = .ok (.getfield 30, 3) := by decide +kernel
theorem dX5_askedSpot_26 : decode cX5_askedSpot 26 = .ok (.getfield 112, 3) := by decide +kernel
theorem dX5_askedSpot_29 : decode cX5_askedSpot 29 = .ok (.invokevirtual 247, 3) := by decide +kernel
theorem dX5_askedSpot_32 : decode cX5_askedSpot 32 = .ok (.istore_n 2, 1) := by decide +kernel
theorem dX5_askedSpot_33 : decode cX5_askedSpot 33 = .ok (.iload_n 2, 1) := by decide +kernel
theorem dX5_askedSpot_34 : decode cX5_askedSpot 34 = .ok (.iconst (-1), 1) := by decide +kernel
theorem dX5_askedSpot_35 : decode cX5_askedSpot 35 = .ok (.if_icmp .eq 8, 3) := by decide +kernel
theorem dX5_askedSpot_38 : decode cX5_askedSpot 38 = .ok (.bipush 10, 2) := by decide +kernel
theorem dX5_askedSpot_40 : decode cX5_askedSpot 40 = .ok (.iload_n 2, 1) := by decide +kernel
theorem dX5_askedSpot_41 : decode cX5_askedSpot 41 = .ok (.iadd, 1) := by decide +kernel
theorem dX5_askedSpot_42 : decode cX5_askedSpot 42 = .ok (.ireturn, 1) := by decide +kernel
theorem dX5_askedSpot_43 : decode cX5_askedSpot 43 = .ok (.aload_n 1, 1) := by decide +kernel
theorem dX5_askedSpot_44 : decode cX5_askedSpot 44 = .ok (.iconst 1, 1) := by decide +kernel
theorem dX5_askedSpot_45 : decode cX5_askedSpot 45 = .ok (.aload_n 0, 1) := by decide +kernel
theorem dX5_askedSpot_46 : decode cX5_askedSpot 46 = .ok (.getfield 30, 3) := by decide +kernel
theorem dX5_askedSpot_49 : decode cX5_askedSpot 49 = .ok (.getfield 112, 3) := by decide +kernel
theorem dX5_askedSpot_52 : decode cX5_askedSpot 52 = .ok (.invokevirtual 247, 3) := by decide +kernel
theorem dX5_askedSpot_55 : decode cX5_askedSpot 55 = .ok (.istore_n 3, 1) := by decide +kernel
theorem dX5_askedSpot_56 : decode cX5_askedSpot 56 = .ok (.iload_n 3, 1) := by decide +kernel
theorem dX5_askedSpot_57 : decode cX5_askedSpot 57 = .ok (.iconst (-1), 1) := by decide +kernel
theorem dX5_askedSpot_58 : decode cX5_askedSpot 58 = .ok (.if_icmp .eq 18, 3) := by decide +kernel
theorem dX5_askedSpot_61 : decode cX5_askedSpot 61 = .ok (.aload_n 1, 1) := by decide +kernel
theorem dX5_askedSpot_62 : decode cX5_askedSpot 62 = .ok (.iload_n 3, 1) := by decide +kernel
theorem dX5_askedSpot_63 : decode cX5_askedSpot 63 = .ok (.invokevirtual 171, 3) := by decide +kernel
theorem dX5_askedSpot_66 : decode cX5_askedSpot 66 = .ok (.ifCond .eq 10, 3) := by decide +kernel
theorem dX5_askedSpot_69 : decode cX5_askedSpot 69 = .ok (.bipush 20, 2) := by decide +kernel
theorem dX5_askedSpot_71 : decode cX5_askedSpot 71 = .ok (.iload_n 3, 1) := by decide +kernel
theorem dX5_askedSpot_72 : decode cX5_askedSpot 72 = .ok (.iadd, 1) := by decide +kernel
theorem dX5_askedSpot_73 : decode cX5_askedSpot 73 = .ok (.goto 8, 3) := by decide +kernel
theorem dX5_askedSpot_76 : decode cX5_askedSpot 76 = .ok (.aload_n 0, 1) := by decide +kernel
theorem dX5_askedSpot_77 : decode cX5_askedSpot 77 = .ok (.iconst 3, 1) := by decide +kernel
theorem dX5_askedSpot_78 : decode cX5_askedSpot 78 = .ok (.invokevirtual 121, 3) := by decide +kernel
theorem dX5_askedSpot_81 : decode cX5_askedSpot 81 = .ok (.ireturn, 1) := by decide +kernel
theorem dX5_number_0 : decode cX5_number 0 = .ok (.aload_n 0, 1) := by decide +kernel
theorem dX5_number_1 : decode cX5_number 1 = .ok (.getfield 30, 3) := by decide +kernel
theorem dX5_number_4 : decode cX5_number 4 = .ok (.invokevirtual 54, 3) := by decide +kernel
theorem dX5_number_7 : decode cX5_number 7 = .ok (.aload_n 0, 1) := by decide +kernel
theorem dX5_number_8 : decode cX5_number 8 = .ok (.getfield 30, 3) := by decide +kernel
theorem dX5_number_11 : decode cX5_number 11 = .ok (.getfield 57, 3) := by decide +kernel
theorem dX5_number_14 : decode cX5_number 14 = .ok (.iconst 2, 1) := by decide +kernel
theorem dX5_number_15 : decode cX5_number 15 = .ok (.if_icmp .eq 9, 3) := by decide +kernel
theorem dX5_number_18 : decode cX5_number 18 = .ok (.aload_n 0, 1) := by decide +kernel
theorem dX5_number_19 : decode cX5_number 19 = .ok (.iconst 1, 1) := by decide +kernel
theorem dX5_number_20 : decode cX5_number 20 = .ok (.invokevirtual 121, 3) := by decide +kernel
theorem dX5_number_23 : decode cX5_number 23 = .ok (.ireturn, 1) := by decide +kernel
theorem dX5_number_24 : decode cX5_number 24 = .ok (.aload_n 0, 1) := by decide +kernel
theorem dX5_number_25 : decode cX5_number 25 = .ok (.getfield 30, 3) := by decide +kernel
theorem dX5_number_28 : decode cX5_number 28 = .ok (.invokevirtual 125, 3) := by decide +kernel
theorem dX5_number_31 : decode cX5_number 31 = .ok (.aload_n 0, 1) := by decide +kernel
theorem dX5_number_32 : decode cX5_number 32 = .ok (.getfield 30, 3) := by decide +kernel
theorem dX5_number_35 : decode cX5_number 35 = .ok (.getfield 112, 3) := by decide +kernel
theorem dX5_number_38 : decode cX5_number 38 = .ok (.iload_n 1, 1) := by decide +kernel
theorem dX5_number_39 : decode cX5_number 39 = .ok (.if_icmp .lt 14, 3) := by decide +kernel
theorem dX5_number_42 : decode cX5_number 42 = .ok (.aload_n 0, 1) := by decide +kernel
theorem dX5_number_43 : decode cX5_number 43 = .ok (.getfield 30, 3) := by decide +kernel
theorem dX5_number_46 : decode cX5_number 46 = .ok (.getfield 112, 3) := by decide +kernel
theorem dX5_number_49 : decode cX5_number 49 = .ok (.iload_n 2, 1) := by decide +kernel
theorem dX5_number_50 : decode cX5_number 50 = .ok (.if_icmp .le 11, 3) := by decide +kernel
theorem dX5_number_53 : decode cX5_number 53 = .ok (.aload_n 0, 1) := by decide +kernel
theorem dX5_number_54 : decode cX5_number 54 = .ok (.iconst 4, 1) := by decide +kernel
theorem dX5_number_55 : decode cX5_number 55 = .ok (.invokevirtual 121, 3) := by decide +kernel
theorem dX5_number_58 : decode cX5_number 58 = .ok (.goto 10, 3) := by decide +kernel
theorem dX5_number_61 : decode cX5_number 61 = .ok (.aload_n 0, 1) := by decide +kernel
theorem dX5_number_62 : decode cX5_number 62 = .ok (.getfield 30, 3) := by decide +kernel
theorem dX5_number_65 : decode cX5_number 65 = .ok (.getfield 112, 3) := by decide +kernel
theorem dX5_number_68 : decode cX5_number 68 = .ok (.ireturn, 1) := by decide +kernel
theorem dX9_add_0 : decode cX9_add 0 = .ok (.iload_n 2, 1) := by decide +kernel
theorem dX9_add_1 : decode cX9_add 1 = .ok (.iconst (-1), 1) := by decide +kernel
theorem dX9_add_2 : decode cX9_add 2 = .ok (.if_icmp .eq 26, 3) := by decide +kernel
theorem dX9_add_5 : decode cX9_add 5 = .ok (.iload_n 1, 1) := by decide +kernel
theorem dX9_add_6 : decode cX9_add 6 = .ok (.ifCond .lt 22, 3) := by decide +kernel
theorem dX9_add_9 : decode cX9_add 9 = .ok (.iload_n 1, 1) := by decide +kernel
theorem dX9_add_10 : decode cX9_add 10 = .ok (.iconst 5, 1) := by decide +kernel
theorem dX9_add_11 : decode cX9_add 11 = .ok (.if_icmp .ge 17, 3) := by decide +kernel
theorem dX9_add_14 : decode cX9_add 14 = .ok (.aload_n 0, 1) := by decide +kernel
theorem dX9_add_15 : decode cX9_add 15 = .ok (.getfield 9, 3) := by decide +kernel
theorem dX9_add_18 : decode cX9_add 18 = .ok (.iload_n 1, 1) := by decide +kernel
theorem dX9_add_19 : decode cX9_add 19 = .ok (.iaload, 1) := by decide +kernel
theorem dX9_add_20 : decode cX9_add 20 = .ok (.getstatic 77, 3) := by decide +kernel
theorem dX9_add_23 : decode cX9_add 23 = .ok (.iload_n 1, 1) := by decide +kernel
theorem dX9_add_24 : decode cX9_add 24 = .ok (.iaload, 1) := by decide +kernel
theorem dX9_add_25 : decode cX9_add 25 = .ok (.if_icmp .lt 5, 3) := by decide +kernel
theorem dX9_add_28 : decode cX9_add 28 = .ok (.iconst 0, 1) := by decide +kernel
theorem dX9_add_29 : decode cX9_add 29 = .ok (.ireturn, 1) := by decide +kernel
theorem dX9_add_30 : decode cX9_add 30 = .ok (.aload_n 0, 1) := by decide +kernel
theorem dX9_add_31 : decode cX9_add 31 = .ok (.getfield 17, 3) := by decide +kernel
theorem dX9_add_34 : decode cX9_add 34 = .ok (.iload_n 1, 1) := by decide +kernel
theorem dX9_add_35 : decode cX9_add 35 = .ok (.aaload, 1) := by decide +kernel
theorem dX9_add_36 : decode cX9_add 36 = .ok (.aload_n 0, 1) := by decide +kernel
theorem dX9_add_37 : decode cX9_add 37 = .ok (.getfield 9, 3) := by decide +kernel
theorem dX9_add_40 : decode cX9_add 40 = .ok (.iload_n 1, 1) := by decide +kernel
theorem dX9_add_41 : decode cX9_add 41 = .ok (.iaload, 1) := by decide +kernel
theorem dX9_add_42 : decode cX9_add 42 = .ok (.iload_n 2, 1) := by decide +kernel
theorem dX9_add_43 : decode cX9_add 43 = .ok (.iastore, 1) := by decide +kernel
theorem dX9_add_44 : decode cX9_add 44 = .ok (.aload_n 0, 1) := by decide +kernel
theorem dX9_add_45 : decode cX9_add 45 = .ok (.getfield 9, 3) := by decide +kernel
theorem dX9_add_48 : decode cX9_add 48 = .ok (.iload_n 1, 1) := by decide +kernel
theorem dX9_add_49 : decode cX9_add 49 = .ok (.dup2, 1) := by decide +kernel
theorem dX9_add_50 : decode cX9_add 50 = .ok (.iaload, 1) := by decide +kernel
theorem dX9_add_51 : decode cX9_add 51 = .ok (.iconst 1, 1) := by decide +kernel
theorem dX9_add_52 : decode cX9_add 52 = .ok (.iadd, 1) := by decide +kernel
theorem dX9_add_53 : decode cX9_add 53 = .ok (.iastore, 1) := by decide +kernel
theorem dX9_add_54 : decode cX9_add 54 = .ok (.iconst 1, 1) := by decide +kernel
theorem dX9_add_55 : decode cX9_add 55 = .ok (.ireturn, 1) := by decide +kernel
theorem dX9_addMust_0 : decode cX9_addMust 0 = .ok (.aload_n 0, 1) := by decide +kernel
theorem dX9_addMust_1 : decode cX9_addMust 1 = .ok (.getfield 9, 3) := by decide +kernel
theorem dX9_addMust_4 : decode cX9_addMust 4 = .ok (.bipush 6, 2) := by decide +kernel
theorem dX9_addMust_6 : decode cX9_addMust 6 = .ok (.iaload, 1) := by decide +kernel
theorem dX9_addMust_7 : decode cX9_addMust 7 = .ok (.istore 4, 2) := by decide +kernel
theorem dX9_addMust_9 : decode cX9_addMust 9 = .ok (.iload 4, 2) := by decide +kernel
theorem dX9_addMust_11 : decode cX9_addMust 11 = .ok (.ifCond .lt 10, 3) := by decide +kernel
theorem dX9_addMust_14 : decode cX9_addMust 14 = .ok (.iload 4, 2) := by decide +kernel
theorem dX9_addMust_16 : decode cX9_addMust 16 = .ok (.bipush 6, 2) := by decide +kernel
theorem dX9_addMust_18 : decode cX9_addMust 18 = .ok (.if_icmp .lt 5, 3) := by decide +kernel
theorem dX9_addMust_21 : decode cX9_addMust 21 = .ok (.iconst 0, 1) := by decide +kernel
theorem dX9_addMust_22 : decode cX9_addMust 22 = .ok (.ireturn, 1) := by decide +kernel
theorem dX9_addMust_23 : decode cX9_addMust 23 = .ok (.aload_n 0, 1) := by decide +kernel
theorem dX9_addMust_24 : decode cX9_addMust 24 = .ok (.getfield 35, 3) := by decide +kernel
theorem dX9_addMust_27 : decode cX9_addMust 27 = .ok (.iload 4, 2) := by decide +kernel
theorem dX9_addMust_29 : decode cX9_addMust 29 = .ok (.iload_n 1, 1) := by decide +kernel
theorem dX9_addMust_30 : decode cX9_addMust 30 = .ok (.iastore, 1) := by decide +kernel
theorem dX9_addMust_31 : decode cX9_addMust 31 = .ok (.aload_n 0, 1) := by decide +kernel
theorem dX9_addMust_32 : decode cX9_addMust 32 = .ok (.getfield 38, 3) := by decide +kernel
theorem dX9_addMust_35 : decode cX9_addMust 35 = .ok (.iload 4, 2) := by decide +kernel
theorem dX9_addMust_37 : decode cX9_addMust 37 = .ok (.iload_n 2, 1) := by decide +kernel
theorem dX9_addMust_38 : decode cX9_addMust 38 = .ok (.iastore, 1) := by decide +kernel
theorem dX9_addMust_39 : decode cX9_addMust 39 = .ok (.aload_n 0, 1) := by decide +kernel
theorem dX9_addMust_40 : decode cX9_addMust 40 = .ok (.getfield 41, 3) := by decide +kernel
theorem dX9_addMust_43 : decode cX9_addMust 43 = .ok (.iload 4, 2) := by decide +kernel
theorem dX9_addMust_45 : decode cX9_addMust 45 = .ok (.iload_n 3, 1) := by decide +kernel
theorem dX9_addMust_46 : decode cX9_addMust 46 = .ok (.iastore, 1) := by decide +kernel
theorem dX9_addMust_47 : decode cX9_addMust 47 = .ok (.aload_n 0, 1) := by decide +kernel
theorem dX9_addMust_48 : decode cX9_addMust 48 = .ok (.getfield 9, 3) := by decide +kernel
theorem dX9_addMust_51 : decode cX9_addMust 51 = .ok (.bipush 6, 2) := by decide +kernel
theorem dX9_addMust_53 : decode cX9_addMust 53 = .ok (.dup2, 1) := by decide +kernel
theorem dX9_addMust_54 : decode cX9_addMust 54 = .ok (.iaload, 1) := by decide +kernel
theorem dX9_addMust_55 : decode cX9_addMust 55 = .ok (.iconst 1, 1) := by decide +kernel
theorem dX9_addMust_56 : decode cX9_addMust 56 = .ok (.iadd, 1) := by decide +kernel
theorem dX9_addMust_57 : decode cX9_addMust 57 = .ok (.iastore, 1) := by decide +kernel
theorem dX9_addMust_58 : decode cX9_addMust 58 = .ok (.iconst 1, 1) := by decide +kernel
theorem dX9_addMust_59 : decode cX9_addMust 59 = .ok (.ireturn, 1) := by decide +kernel
