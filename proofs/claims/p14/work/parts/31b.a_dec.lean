theorem dX12_must_0 : decode cX12_must 0 = .ok (.aload_n 0, 1) := by decide +kernel
theorem dX12_must_1 : decode cX12_must 1 = .ok (.iload_n 1, 1) := by decide +kernel
theorem dX12_must_2 : decode cX12_must 2 = .ok (.invokevirtual 290, 3) := by decide +kernel
theorem dX12_must_5 : decode cX12_must 5 = .ok (.ifCond .ne 12, 3) := by decide +kernel
theorem dX12_must_8 : decode cX12_must 8 = .ok (.aload_n 0, 1) := by decide +kernel
theorem dX12_must_9 : decode cX12_must 9 = .ok (.iconst 1, 1) := by decide +kernel
theorem dX12_must_10 : decode cX12_must 10 = .ok (.aload_n 0, 1) := by decide +kernel
theorem dX12_must_11 : decode cX12_must 11 = .ok (.getfield 23, 3) := by decide +kernel
theorem dX12_must_14 : decode cX12_must 14 = .ok (.invokevirtual 286, 3) := by decide +kernel
theorem dX12_must_17 : decode cX12_must 17 = .ok (.aload_n 0, 1) := by decide +kernel
theorem dX12_must_18 : decode cX12_must 18 = .ok (.getfield 36, 3) := by decide +kernel
theorem dX12_must_21 : decode cX12_must 21 = .ok (.ifCond .ne 7, 3) := by decide +kernel
theorem dX12_must_24 : decode cX12_must 24 = .ok (.aload_n 0, 1) := by decide +kernel
theorem dX12_must_25 : decode cX12_must 25 = .ok (.invokevirtual 293, 3) := by decide +kernel
theorem dX12_must_28 : decode cX12_must 28 = .ok (.return_, 1) := by decide +kernel
theorem dX12_named_0 : decode cX12_named 0 = .ok (.iload_n 1, 1) := by decide +kernel
theorem dX12_named_1 : decode cX12_named 1 = .ok (.ifCond .ne 15, 3) := by decide +kernel
theorem dX12_named_4 : decode cX12_named 4 = .ok (.aload_n 0, 1) := by decide +kernel
theorem dX12_named_5 : decode cX12_named 5 = .ok (.getfield 51, 3) := by decide +kernel
theorem dX12_named_8 : decode cX12_named 8 = .ok (.aload_n 0, 1) := by decide +kernel
theorem dX12_named_9 : decode cX12_named 9 = .ok (.getfield 155, 3) := by decide +kernel
theorem dX12_named_12 : decode cX12_named 12 = .ok (.iaload, 1) := by decide +kernel
theorem dX12_named_13 : decode cX12_named 13 = .ok (.goto 63, 3) := by decide +kernel
theorem dX12_named_16 : decode cX12_named 16 = .ok (.iload_n 1, 1) := by decide +kernel
theorem dX12_named_17 : decode cX12_named 17 = .ok (.iconst 1, 1) := by decide +kernel
theorem dX12_named_18 : decode cX12_named 18 = .ok (.if_icmp .ne 15, 3) := by decide +kernel
theorem dX12_named_21 : decode cX12_named 21 = .ok (.aload_n 0, 1) := by decide +kernel
theorem dX12_named_22 : decode cX12_named 22 = .ok (.getfield 58, 3) := by decide +kernel
theorem dX12_named_25 : decode cX12_named 25 = .ok (.aload_n 0, 1) := by decide +kernel
theorem dX12_named_26 : decode cX12_named 26 = .ok (.getfield 155, 3) := by decide +kernel
theorem dX12_named_29 : decode cX12_named 29 = .ok (.iaload, 1) := by decide +kernel
theorem dX12_named_30 : decode cX12_named 30 = .ok (.goto 46, 3) := by decide +kernel
theorem dX12_named_33 : decode cX12_named 33 = .ok (.iload_n 1, 1) := by decide +kernel
theorem dX12_named_34 : decode cX12_named 34 = .ok (.iconst 2, 1) := by decide +kernel
theorem dX12_named_35 : decode cX12_named 35 = .ok (.if_icmp .ne 15, 3) := by decide +kernel
theorem dX12_named_38 : decode cX12_named 38 = .ok (.aload_n 0, 1) := by decide +kernel
theorem dX12_named_39 : decode cX12_named 39 = .ok (.getfield 80, 3) := by decide +kernel
theorem dX12_named_42 : decode cX12_named 42 = .ok (.aload_n 0, 1) := by decide +kernel
theorem dX12_named_43 : decode cX12_named 43 = .ok (.getfield 155, 3) := by decide +kernel
theorem dX12_named_46 : decode cX12_named 46 = .ok (.iaload, 1) := by decide +kernel
theorem dX12_named_47 : decode cX12_named 47 = .ok (.goto 29, 3) := by decide +kernel
theorem dX12_named_50 : decode cX12_named 50 = .ok (.iload_n 1, 1) := by decide +kernel
theorem dX12_named_51 : decode cX12_named 51 = .ok (.iconst 3, 1) := by decide +kernel
theorem dX12_named_52 : decode cX12_named 52 = .ok (.if_icmp .ne 15, 3) := by decide +kernel
theorem dX12_named_55 : decode cX12_named 55 = .ok (.aload_n 0, 1) := by decide +kernel
theorem dX12_named_56 : decode cX12_named 56 = .ok (.getfield 95, 3) := by decide +kernel
theorem dX12_named_59 : decode cX12_named 59 = .ok (.aload_n 0, 1) := by decide +kernel
theorem dX12_named_60 : decode cX12_named 60 = .ok (.getfield 155, 3) := by decide +kernel
theorem dX12_named_63 : decode cX12_named 63 = .ok (.iaload, 1) := by decide +kernel
theorem dX12_named_64 : decode cX12_named 64 = .ok (.goto 12, 3) := by decide +kernel
theorem dX12_named_67 : decode cX12_named 67 = .ok (.aload_n 0, 1) := by decide +kernel
theorem dX12_named_68 : decode cX12_named 68 = .ok (.getfield 104, 3) := by decide +kernel
theorem dX12_named_71 : decode cX12_named 71 = .ok (.aload_n 0, 1) := by decide +kernel
theorem dX12_named_72 : decode cX12_named 72 = .ok (.getfield 155, 3) := by decide +kernel
theorem dX12_named_75 : decode cX12_named 75 = .ok (.iaload, 1) := by decide +kernel
theorem dX12_named_76 : decode cX12_named 76 = .ok (.istore 4, 2) := by decide +kernel
theorem dX12_named_78 : decode cX12_named 78 = .ok (.iconst 0, 1) := by decide +kernel
theorem dX12_named_79 : decode cX12_named 79 = .ok (.istore 5, 2) := by decide +kernel
theorem dX12_named_81 : decode cX12_named 81 = .ok (.iload 5, 2) := by decide +kernel
theorem dX12_named_83 : decode cX12_named 83 = .ok (.iload 4, 2) := by decide +kernel
theorem dX12_named_85 : decode cX12_named 85 = .ok (.if_icmp .ge 28, 3) := by decide +kernel
theorem dX12_named_88 : decode cX12_named 88 = .ok (.aload_n 0, 1) := by decide +kernel
theorem dX12_named_89 : decode cX12_named 89 = .ok (.aload_n 0, 1) := by decide +kernel
theorem dX12_named_90 : decode cX12_named 90 = .ok (.getfield 155, 3) := by decide +kernel
theorem dX12_named_93 : decode cX12_named 93 = .ok (.iload_n 1, 1) := by decide +kernel
theorem dX12_named_94 : decode cX12_named 94 = .ok (.iload 5, 2) := by decide +kernel
theorem dX12_named_96 : decode cX12_named 96 = .ok (.invokevirtual 348, 3) := by decide +kernel
theorem dX12_named_99 : decode cX12_named 99 = .ok (.lload_n 2, 1) := by decide +kernel
theorem dX12_named_100 : decode cX12_named 100 = .ok (.lcmp, 1) := by decide +kernel
theorem dX12_named_101 : decode cX12_named 101 = .ok (.ifCond .ne 6, 3) := by decide +kernel
theorem dX12_named_104 : decode cX12_named 104 = .ok (.iload 5, 2) := by decide +kernel
theorem dX12_named_106 : decode cX12_named 106 = .ok (.ireturn, 1) := by decide +kernel
theorem dX12_named_107 : decode cX12_named 107 = .ok (.iinc 5 1, 3) := by decide +kernel
theorem dX12_named_110 : decode cX12_named 110 = .ok (.goto (-29), 3) := by decide +kernel
theorem dX12_named_113 : decode cX12_named 113 = .ok (.iconst (-1), 1) := by decide +kernel
theorem dX12_named_114 : decode cX12_named 114 = .ok (.ireturn, 1) := by decide +kernel
theorem dX12_nameOf_0 : decode cX12_nameOf 0 = .ok (.iload_n 2, 1) := by decide +kernel
theorem dX12_nameOf_1 : decode cX12_nameOf 1 = .ok (.tableswitch 77 0 3 #[31, 43, 55, 66], 31) := by decide +kernel
theorem dX12_nameOf_32 : decode cX12_nameOf 32 = .ok (.aload_n 0, 1) := by decide +kernel
theorem dX12_nameOf_33 : decode cX12_nameOf 33 = .ok (.getfield 54, 3) := by decide +kernel
theorem dX12_nameOf_36 : decode cX12_nameOf 36 = .ok (.bipush 8, 2) := by decide +kernel
theorem dX12_nameOf_38 : decode cX12_nameOf 38 = .ok (.iload_n 1, 1) := by decide +kernel
theorem dX12_nameOf_39 : decode cX12_nameOf 39 = .ok (.imul, 1) := by decide +kernel
theorem dX12_nameOf_40 : decode cX12_nameOf 40 = .ok (.iload_n 3, 1) := by decide +kernel
theorem dX12_nameOf_41 : decode cX12_nameOf 41 = .ok (.iadd, 1) := by decide +kernel
theorem dX12_nameOf_42 : decode cX12_nameOf 42 = .ok (.laload, 1) := by decide +kernel
theorem dX12_nameOf_43 : decode cX12_nameOf 43 = .ok (.lreturn, 1) := by decide +kernel
theorem dX12_nameOf_44 : decode cX12_nameOf 44 = .ok (.aload_n 0, 1) := by decide +kernel
theorem dX12_nameOf_45 : decode cX12_nameOf 45 = .ok (.getfield 61, 3) := by decide +kernel
theorem dX12_nameOf_48 : decode cX12_nameOf 48 = .ok (.bipush 10, 2) := by decide +kernel
theorem dX12_nameOf_50 : decode cX12_nameOf 50 = .ok (.iload_n 1, 1) := by decide +kernel
theorem dX12_nameOf_51 : decode cX12_nameOf 51 = .ok (.imul, 1) := by decide +kernel
theorem dX12_nameOf_52 : decode cX12_nameOf 52 = .ok (.iload_n 3, 1) := by decide +kernel
theorem dX12_nameOf_53 : decode cX12_nameOf 53 = .ok (.iadd, 1) := by decide +kernel
theorem dX12_nameOf_54 : decode cX12_nameOf 54 = .ok (.laload, 1) := by decide +kernel
theorem dX12_nameOf_55 : decode cX12_nameOf 55 = .ok (.lreturn, 1) := by decide +kernel
theorem dX12_nameOf_56 : decode cX12_nameOf 56 = .ok (.aload_n 0, 1) := by decide +kernel
theorem dX12_nameOf_57 : decode cX12_nameOf 57 = .ok (.getfield 83, 3) := by decide +kernel
theorem dX12_nameOf_60 : decode cX12_nameOf 60 = .ok (.iconst 4, 1) := by decide +kernel
theorem dX12_nameOf_61 : decode cX12_nameOf 61 = .ok (.iload_n 1, 1) := by decide +kernel
theorem dX12_nameOf_62 : decode cX12_nameOf 62 = .ok (.imul, 1) := by decide +kernel
theorem dX12_nameOf_63 : decode cX12_nameOf 63 = .ok (.iload_n 3, 1) := by decide +kernel
theorem dX12_nameOf_64 : decode cX12_nameOf 64 = .ok (.iadd, 1) := by decide +kernel
theorem dX12_nameOf_65 : decode cX12_nameOf 65 = .ok (.laload, 1) := by decide +kernel
theorem dX12_nameOf_66 : decode cX12_nameOf 66 = .ok (.lreturn, 1) := by decide +kernel
theorem dX12_nameOf_67 : decode cX12_nameOf 67 = .ok (.aload_n 0, 1) := by decide +kernel
theorem dX12_nameOf_68 : decode cX12_nameOf 68 = .ok (.getfield 98, 3) := by decide +kernel
theorem dX12_nameOf_71 : decode cX12_nameOf 71 = .ok (.iconst 3, 1) := by decide +kernel
theorem dX12_nameOf_72 : decode cX12_nameOf 72 = .ok (.iload_n 1, 1) := by decide +kernel
theorem dX12_nameOf_73 : decode cX12_nameOf 73 = .ok (.imul, 1) := by decide +kernel
theorem dX12_nameOf_74 : decode cX12_nameOf 74 = .ok (.iload_n 3, 1) := by decide +kernel
theorem dX12_nameOf_75 : decode cX12_nameOf 75 = .ok (.iadd, 1) := by decide +kernel
theorem dX12_nameOf_76 : decode cX12_nameOf 76 = .ok (.laload, 1) := by decide +kernel
theorem dX12_nameOf_77 : decode cX12_nameOf 77 = .ok (.lreturn, 1) := by decide +kernel
theorem dX12_nameOf_78 : decode cX12_nameOf 78 = .ok (.aload_n 0, 1) := by decide +kernel
theorem dX12_nameOf_79 : decode cX12_nameOf 79 = .ok (.getfield 107, 3) := by decide +kernel
theorem dX12_nameOf_82 : decode cX12_nameOf 82 = .ok (.iconst 4, 1) := by decide +kernel
theorem dX12_nameOf_83 : decode cX12_nameOf 83 = .ok (.iload_n 1, 1) := by decide +kernel
theorem dX12_nameOf_84 : decode cX12_nameOf 84 = .ok (.imul, 1) := by decide +kernel
theorem dX12_nameOf_85 : decode cX12_nameOf 85 = .ok (.iload_n 3, 1) := by decide +kernel
theorem dX12_nameOf_86 : decode cX12_nameOf 86 = .ok (.iadd, 1) := by decide +kernel
theorem dX12_nameOf_87 : decode cX12_nameOf 87 = .ok (.laload, 1) := by decide +kernel
theorem dX12_nameOf_88 : decode cX12_nameOf 88 = .ok (.lreturn, 1) := by decide +kernel
theorem dX12_number_0 : decode cX12_number 0 = .ok (.aload_n 0, 1) := by decide +kernel
theorem dX12_number_1 : decode cX12_number 1 = .ok (.getfield 36, 3) := by decide +kernel
theorem dX12_number_4 : decode cX12_number 4 = .ok (.ifCond .le 5, 3) := by decide +kernel
theorem dX12_number_7 : decode cX12_number 7 = .ok (.iconst 0, 1) := by decide +kernel
theorem dX12_number_8 : decode cX12_number 8 = .ok (.ireturn, 1) := by decide +kernel
theorem dX12_number_9 : decode cX12_number 9 = .ok (.aload_n 0, 1) := by decide +kernel
theorem dX12_number_10 : decode cX12_number 10 = .ok (.getfield 20, 3) := by decide +kernel
theorem dX12_number_13 : decode cX12_number 13 = .ok (.iconst 2, 1) := by decide +kernel
theorem dX12_number_14 : decode cX12_number 14 = .ok (.if_icmp .eq 12, 3) := by decide +kernel
theorem dX12_number_17 : decode cX12_number 17 = .ok (.aload_n 0, 1) := by decide +kernel
theorem dX12_number_18 : decode cX12_number 18 = .ok (.iconst 1, 1) := by decide +kernel
theorem dX12_number_19 : decode cX12_number 19 = .ok (.aload_n 0, 1) := by decide +kernel
theorem dX12_number_20 : decode cX12_number 20 = .ok (.getfield 23, 3) := by decide +kernel
theorem dX12_number_23 : decode cX12_number 23 = .ok (.invokevirtual 286, 3) := by decide +kernel
theorem dX12_number_26 : decode cX12_number 26 = .ok (.aload_n 0, 1) := by decide +kernel
theorem dX12_number_27 : decode cX12_number 27 = .ok (.getfield 36, 3) := by decide +kernel
theorem dX12_number_30 : decode cX12_number 30 = .ok (.ifCond .ne 24, 3) := by decide +kernel
theorem dX12_number_33 : decode cX12_number 33 = .ok (.aload_n 0, 1) := by decide +kernel
theorem dX12_number_34 : decode cX12_number 34 = .ok (.getfield 29, 3) := by decide +kernel
theorem dX12_number_37 : decode cX12_number 37 = .ok (.iload_n 1, 1) := by decide +kernel
theorem dX12_number_38 : decode cX12_number 38 = .ok (.iload_n 2, 1) := by decide +kernel
theorem dX12_number_39 : decode cX12_number 39 = .ok (.invokestatic 352, 3) := by decide +kernel
theorem dX12_number_42 : decode cX12_number 42 = .ok (.ifCond .ne 12, 3) := by decide +kernel
theorem dX12_number_45 : decode cX12_number 45 = .ok (.aload_n 0, 1) := by decide +kernel
theorem dX12_number_46 : decode cX12_number 46 = .ok (.iconst 4, 1) := by decide +kernel
theorem dX12_number_47 : decode cX12_number 47 = .ok (.aload_n 0, 1) := by decide +kernel
theorem dX12_number_48 : decode cX12_number 48 = .ok (.getfield 23, 3) := by decide +kernel
theorem dX12_number_51 : decode cX12_number 51 = .ok (.invokevirtual 286, 3) := by decide +kernel
theorem dX12_number_54 : decode cX12_number 54 = .ok (.aload_n 0, 1) := by decide +kernel
theorem dX12_number_55 : decode cX12_number 55 = .ok (.getfield 29, 3) := by decide +kernel
theorem dX12_number_58 : decode cX12_number 58 = .ok (.istore_n 3, 1) := by decide +kernel
theorem dX12_number_59 : decode cX12_number 59 = .ok (.aload_n 0, 1) := by decide +kernel
theorem dX12_number_60 : decode cX12_number 60 = .ok (.getfield 36, 3) := by decide +kernel
theorem dX12_number_63 : decode cX12_number 63 = .ok (.ifCond .ne 7, 3) := by decide +kernel
theorem dX12_number_66 : decode cX12_number 66 = .ok (.aload_n 0, 1) := by decide +kernel
theorem dX12_number_67 : decode cX12_number 67 = .ok (.invokevirtual 293, 3) := by decide +kernel
theorem dX12_number_70 : decode cX12_number 70 = .ok (.iload_n 3, 1) := by decide +kernel
theorem dX12_number_71 : decode cX12_number 71 = .ok (.ireturn, 1) := by decide +kernel
theorem dX12_must__0 : decode cX12_must_ 0 = .ok (.aload_n 0, 1) := by decide +kernel
theorem dX12_must__1 : decode cX12_must_ 1 = .ok (.getfield 36, 3) := by decide +kernel
theorem dX12_must__4 : decode cX12_must_ 4 = .ok (.ifCond .le 4, 3) := by decide +kernel
theorem dX12_must__7 : decode cX12_must_ 7 = .ok (.return_, 1) := by decide +kernel
theorem dX12_must__8 : decode cX12_must_ 8 = .ok (.aload_n 0, 1) := by decide +kernel
theorem dX12_must__9 : decode cX12_must_ 9 = .ok (.lload_n 1, 1) := by decide +kernel
theorem dX12_must__10 : decode cX12_must_ 10 = .ok (.invokevirtual 368, 3) := by decide +kernel
theorem dX12_must__13 : decode cX12_must_ 13 = .ok (.ifCond .ne 12, 3) := by decide +kernel
theorem dX12_must__16 : decode cX12_must_ 16 = .ok (.aload_n 0, 1) := by decide +kernel
theorem dX12_must__17 : decode cX12_must_ 17 = .ok (.iconst 1, 1) := by decide +kernel
theorem dX12_must__18 : decode cX12_must_ 18 = .ok (.aload_n 0, 1) := by decide +kernel
theorem dX12_must__19 : decode cX12_must_ 19 = .ok (.getfield 23, 3) := by decide +kernel
theorem dX12_must__22 : decode cX12_must_ 22 = .ok (.invokevirtual 286, 3) := by decide +kernel
theorem dX12_must__25 : decode cX12_must_ 25 = .ok (.aload_n 0, 1) := by decide +kernel
theorem dX12_must__26 : decode cX12_must_ 26 = .ok (.getfield 36, 3) := by decide +kernel
theorem dX12_must__29 : decode cX12_must_ 29 = .ok (.ifCond .ne 7, 3) := by decide +kernel
theorem dX12_must__32 : decode cX12_must_ 32 = .ok (.aload_n 0, 1) := by decide +kernel
theorem dX12_must__33 : decode cX12_must_ 33 = .ok (.invokevirtual 293, 3) := by decide +kernel
theorem dX12_must__36 : decode cX12_must_ 36 = .ok (.return_, 1) := by decide +kernel
