theorem dX12_thing_0 : decode cX12_thing 0 = .ok (.aload_n 0, 1) := by decide +kernel
theorem dX12_thing_1 : decode cX12_thing 1 = .ok (.aload_n 0, 1) := by decide +kernel
theorem dX12_thing_2 : decode cX12_thing 2 = .ok (.getfield 104, 3) := by decide +kernel
theorem dX12_thing_5 : decode cX12_thing 5 = .ok (.aload_n 0, 1) := by decide +kernel
theorem dX12_thing_6 : decode cX12_thing 6 = .ok (.getfield 155, 3) := by decide +kernel
theorem dX12_thing_9 : decode cX12_thing 9 = .ok (.iaload, 1) := by decide +kernel
theorem dX12_thing_10 : decode cX12_thing 10 = .ok (.iconst 4, 1) := by decide +kernel
theorem dX12_thing_11 : decode cX12_thing 11 = .ok (.if_icmp .ne 7, 3) := by decide +kernel
theorem dX12_thing_14 : decode cX12_thing 14 = .ok (.iconst 1, 1) := by decide +kernel
theorem dX12_thing_15 : decode cX12_thing 15 = .ok (.goto 4, 3) := by decide +kernel
theorem dX12_thing_18 : decode cX12_thing 18 = .ok (.iconst 0, 1) := by decide +kernel
theorem dX12_thing_19 : decode cX12_thing 19 = .ok (.invokevirtual 394, 3) := by decide +kernel
theorem dX12_thing_22 : decode cX12_thing 22 = .ok (.ifCond .ne 4, 3) := by decide +kernel
theorem dX12_thing_25 : decode cX12_thing 25 = .ok (.return_, 1) := by decide +kernel
theorem dX12_thing_26 : decode cX12_thing 26 = .ok (.iconst 4, 1) := by decide +kernel
theorem dX12_thing_27 : decode cX12_thing 27 = .ok (.aload_n 0, 1) := by decide +kernel
theorem dX12_thing_28 : decode cX12_thing 28 = .ok (.getfield 155, 3) := by decide +kernel
theorem dX12_thing_31 : decode cX12_thing 31 = .ok (.imul, 1) := by decide +kernel
theorem dX12_thing_32 : decode cX12_thing 32 = .ok (.aload_n 0, 1) := by decide +kernel
theorem dX12_thing_33 : decode cX12_thing 33 = .ok (.getfield 104, 3) := by decide +kernel
theorem dX12_thing_36 : decode cX12_thing 36 = .ok (.aload_n 0, 1) := by decide +kernel
theorem dX12_thing_37 : decode cX12_thing 37 = .ok (.getfield 155, 3) := by decide +kernel
theorem dX12_thing_40 : decode cX12_thing 40 = .ok (.iaload, 1) := by decide +kernel
theorem dX12_thing_41 : decode cX12_thing 41 = .ok (.iadd, 1) := by decide +kernel
theorem dX12_thing_42 : decode cX12_thing 42 = .ok (.istore_n 1, 1) := by decide +kernel
theorem dX12_thing_43 : decode cX12_thing 43 = .ok (.aload_n 0, 1) := by decide +kernel
theorem dX12_thing_44 : decode cX12_thing 44 = .ok (.getfield 107, 3) := by decide +kernel
theorem dX12_thing_47 : decode cX12_thing 47 = .ok (.iload_n 1, 1) := by decide +kernel
theorem dX12_thing_48 : decode cX12_thing 48 = .ok (.aload_n 0, 1) := by decide +kernel
theorem dX12_thing_49 : decode cX12_thing 49 = .ok (.invokevirtual 398, 3) := by decide +kernel
theorem dX12_thing_52 : decode cX12_thing 52 = .ok (.lastore, 1) := by decide +kernel
theorem dX12_thing_53 : decode cX12_thing 53 = .ok (.aload_n 0, 1) := by decide +kernel
theorem dX12_thing_54 : decode cX12_thing 54 = .ok (.getfield 110, 3) := by decide +kernel
theorem dX12_thing_57 : decode cX12_thing 57 = .ok (.iload_n 1, 1) := by decide +kernel
theorem dX12_thing_58 : decode cX12_thing 58 = .ok (.aload_n 0, 1) := by decide +kernel
theorem dX12_thing_59 : decode cX12_thing 59 = .ok (.invokevirtual 415, 3) := by decide +kernel
theorem dX12_thing_62 : decode cX12_thing 62 = .ok (.iastore, 1) := by decide +kernel
theorem dX12_thing_63 : decode cX12_thing 63 = .ok (.aload_n 0, 1) := by decide +kernel
theorem dX12_thing_64 : decode cX12_thing 64 = .ok (.getfield 36, 3) := by decide +kernel
theorem dX12_thing_67 : decode cX12_thing 67 = .ok (.ifCond .ne 16, 3) := by decide +kernel
theorem dX12_thing_70 : decode cX12_thing 70 = .ok (.aload_n 0, 1) := by decide +kernel
theorem dX12_thing_71 : decode cX12_thing 71 = .ok (.getfield 104, 3) := by decide +kernel
theorem dX12_thing_74 : decode cX12_thing 74 = .ok (.aload_n 0, 1) := by decide +kernel
theorem dX12_thing_75 : decode cX12_thing 75 = .ok (.getfield 155, 3) := by decide +kernel
theorem dX12_thing_78 : decode cX12_thing 78 = .ok (.dup2, 1) := by decide +kernel
theorem dX12_thing_79 : decode cX12_thing 79 = .ok (.iaload, 1) := by decide +kernel
theorem dX12_thing_80 : decode cX12_thing 80 = .ok (.iconst 1, 1) := by decide +kernel
theorem dX12_thing_81 : decode cX12_thing 81 = .ok (.iadd, 1) := by decide +kernel
theorem dX12_thing_82 : decode cX12_thing 82 = .ok (.iastore, 1) := by decide +kernel
theorem dX12_thing_83 : decode cX12_thing 83 = .ok (.return_, 1) := by decide +kernel
theorem dX12_person_0 : decode cX12_person 0 = .ok (.aload_n 0, 1) := by decide +kernel
theorem dX12_person_1 : decode cX12_person 1 = .ok (.aload_n 0, 1) := by decide +kernel
theorem dX12_person_2 : decode cX12_person 2 = .ok (.getfield 95, 3) := by decide +kernel
theorem dX12_person_5 : decode cX12_person 5 = .ok (.aload_n 0, 1) := by decide +kernel
theorem dX12_person_6 : decode cX12_person 6 = .ok (.getfield 155, 3) := by decide +kernel
theorem dX12_person_9 : decode cX12_person 9 = .ok (.iaload, 1) := by decide +kernel
theorem dX12_person_10 : decode cX12_person 10 = .ok (.iconst 3, 1) := by decide +kernel
theorem dX12_person_11 : decode cX12_person 11 = .ok (.if_icmp .ne 7, 3) := by decide +kernel
theorem dX12_person_14 : decode cX12_person 14 = .ok (.iconst 1, 1) := by decide +kernel
theorem dX12_person_15 : decode cX12_person 15 = .ok (.goto 4, 3) := by decide +kernel
theorem dX12_person_18 : decode cX12_person 18 = .ok (.iconst 0, 1) := by decide +kernel
theorem dX12_person_19 : decode cX12_person 19 = .ok (.invokevirtual 394, 3) := by decide +kernel
theorem dX12_person_22 : decode cX12_person 22 = .ok (.ifCond .ne 4, 3) := by decide +kernel
theorem dX12_person_25 : decode cX12_person 25 = .ok (.return_, 1) := by decide +kernel
theorem dX12_person_26 : decode cX12_person 26 = .ok (.iconst 3, 1) := by decide +kernel
theorem dX12_person_27 : decode cX12_person 27 = .ok (.aload_n 0, 1) := by decide +kernel
theorem dX12_person_28 : decode cX12_person 28 = .ok (.getfield 155, 3) := by decide +kernel
theorem dX12_person_31 : decode cX12_person 31 = .ok (.imul, 1) := by decide +kernel
theorem dX12_person_32 : decode cX12_person 32 = .ok (.aload_n 0, 1) := by decide +kernel
theorem dX12_person_33 : decode cX12_person 33 = .ok (.getfield 95, 3) := by decide +kernel
theorem dX12_person_36 : decode cX12_person 36 = .ok (.aload_n 0, 1) := by decide +kernel
theorem dX12_person_37 : decode cX12_person 37 = .ok (.getfield 155, 3) := by decide +kernel
theorem dX12_person_40 : decode cX12_person 40 = .ok (.iaload, 1) := by decide +kernel
theorem dX12_person_41 : decode cX12_person 41 = .ok (.iadd, 1) := by decide +kernel
theorem dX12_person_42 : decode cX12_person 42 = .ok (.istore_n 1, 1) := by decide +kernel
theorem dX12_person_43 : decode cX12_person 43 = .ok (.aload_n 0, 1) := by decide +kernel
theorem dX12_person_44 : decode cX12_person 44 = .ok (.getfield 98, 3) := by decide +kernel
theorem dX12_person_47 : decode cX12_person 47 = .ok (.iload_n 1, 1) := by decide +kernel
theorem dX12_person_48 : decode cX12_person 48 = .ok (.aload_n 0, 1) := by decide +kernel
theorem dX12_person_49 : decode cX12_person 49 = .ok (.invokevirtual 398, 3) := by decide +kernel
theorem dX12_person_52 : decode cX12_person 52 = .ok (.lastore, 1) := by decide +kernel
theorem dX12_person_53 : decode cX12_person 53 = .ok (.aload_n 0, 1) := by decide +kernel
theorem dX12_person_54 : decode cX12_person 54 = .ok (.ldc2_w 302, 3) := by decide +kernel
theorem dX12_person_57 : decode cX12_person 57 = .ok (.invokevirtual 402, 3) := by decide +kernel
theorem dX12_person_60 : decode cX12_person 60 = .ok (.aload_n 0, 1) := by decide +kernel
theorem dX12_person_61 : decode cX12_person 61 = .ok (.getfield 101, 3) := by decide +kernel
theorem dX12_person_64 : decode cX12_person 64 = .ok (.iload_n 1, 1) := by decide +kernel
theorem dX12_person_65 : decode cX12_person 65 = .ok (.aload_n 0, 1) := by decide +kernel
theorem dX12_person_66 : decode cX12_person 66 = .ok (.iconst 0, 1) := by decide +kernel
theorem dX12_person_67 : decode cX12_person 67 = .ok (.invokevirtual 406, 3) := by decide +kernel
theorem dX12_person_70 : decode cX12_person 70 = .ok (.iastore, 1) := by decide +kernel
theorem dX12_person_71 : decode cX12_person 71 = .ok (.aload_n 0, 1) := by decide +kernel
theorem dX12_person_72 : decode cX12_person 72 = .ok (.getfield 36, 3) := by decide +kernel
theorem dX12_person_75 : decode cX12_person 75 = .ok (.ifCond .ne 16, 3) := by decide +kernel
theorem dX12_person_78 : decode cX12_person 78 = .ok (.aload_n 0, 1) := by decide +kernel
theorem dX12_person_79 : decode cX12_person 79 = .ok (.getfield 95, 3) := by decide +kernel
theorem dX12_person_82 : decode cX12_person 82 = .ok (.aload_n 0, 1) := by decide +kernel
theorem dX12_person_83 : decode cX12_person 83 = .ok (.getfield 155, 3) := by decide +kernel
theorem dX12_person_86 : decode cX12_person 86 = .ok (.dup2, 1) := by decide +kernel
theorem dX12_person_87 : decode cX12_person 87 = .ok (.iaload, 1) := by decide +kernel
theorem dX12_person_88 : decode cX12_person 88 = .ok (.iconst 1, 1) := by decide +kernel
theorem dX12_person_89 : decode cX12_person 89 = .ok (.iadd, 1) := by decide +kernel
theorem dX12_person_90 : decode cX12_person 90 = .ok (.iastore, 1) := by decide +kernel
theorem dX12_person_91 : decode cX12_person 91 = .ok (.return_, 1) := by decide +kernel
theorem dX12_mustBe_0 : decode cX12_mustBe 0 = .ok (.aload_n 0, 1) := by decide +kernel
theorem dX12_mustBe_1 : decode cX12_mustBe 1 = .ok (.aload_n 0, 1) := by decide +kernel
theorem dX12_mustBe_2 : decode cX12_mustBe 2 = .ok (.getfield 122, 3) := by decide +kernel
theorem dX12_mustBe_5 : decode cX12_mustBe 5 = .ok (.aload_n 0, 1) := by decide +kernel
theorem dX12_mustBe_6 : decode cX12_mustBe 6 = .ok (.getfield 155, 3) := by decide +kernel
theorem dX12_mustBe_9 : decode cX12_mustBe 9 = .ok (.iaload, 1) := by decide +kernel
theorem dX12_mustBe_10 : decode cX12_mustBe 10 = .ok (.bipush 6, 2) := by decide +kernel
theorem dX12_mustBe_12 : decode cX12_mustBe 12 = .ok (.if_icmp .ne 7, 3) := by decide +kernel
theorem dX12_mustBe_15 : decode cX12_mustBe 15 = .ok (.iconst 1, 1) := by decide +kernel
theorem dX12_mustBe_16 : decode cX12_mustBe 16 = .ok (.goto 4, 3) := by decide +kernel
theorem dX12_mustBe_19 : decode cX12_mustBe 19 = .ok (.iconst 0, 1) := by decide +kernel
theorem dX12_mustBe_20 : decode cX12_mustBe 20 = .ok (.invokevirtual 394, 3) := by decide +kernel
theorem dX12_mustBe_23 : decode cX12_mustBe 23 = .ok (.ifCond .ne 4, 3) := by decide +kernel
theorem dX12_mustBe_26 : decode cX12_mustBe 26 = .ok (.return_, 1) := by decide +kernel
theorem dX12_mustBe_27 : decode cX12_mustBe 27 = .ok (.bipush 6, 2) := by decide +kernel
theorem dX12_mustBe_29 : decode cX12_mustBe 29 = .ok (.aload_n 0, 1) := by decide +kernel
theorem dX12_mustBe_30 : decode cX12_mustBe 30 = .ok (.getfield 155, 3) := by decide +kernel
theorem dX12_mustBe_33 : decode cX12_mustBe 33 = .ok (.imul, 1) := by decide +kernel
theorem dX12_mustBe_34 : decode cX12_mustBe 34 = .ok (.aload_n 0, 1) := by decide +kernel
theorem dX12_mustBe_35 : decode cX12_mustBe 35 = .ok (.getfield 122, 3) := by decide +kernel
theorem dX12_mustBe_38 : decode cX12_mustBe 38 = .ok (.aload_n 0, 1) := by decide +kernel
theorem dX12_mustBe_39 : decode cX12_mustBe 39 = .ok (.getfield 155, 3) := by decide +kernel
theorem dX12_mustBe_42 : decode cX12_mustBe 42 = .ok (.iaload, 1) := by decide +kernel
theorem dX12_mustBe_43 : decode cX12_mustBe 43 = .ok (.iadd, 1) := by decide +kernel
theorem dX12_mustBe_44 : decode cX12_mustBe 44 = .ok (.istore_n 1, 1) := by decide +kernel
theorem dX12_mustBe_45 : decode cX12_mustBe 45 = .ok (.aload_n 0, 1) := by decide +kernel
theorem dX12_mustBe_46 : decode cX12_mustBe 46 = .ok (.getfield 125, 3) := by decide +kernel
theorem dX12_mustBe_49 : decode cX12_mustBe 49 = .ok (.iload_n 1, 1) := by decide +kernel
theorem dX12_mustBe_50 : decode cX12_mustBe 50 = .ok (.aload_n 0, 1) := by decide +kernel
theorem dX12_mustBe_51 : decode cX12_mustBe 51 = .ok (.iconst 1, 1) := by decide +kernel
theorem dX12_mustBe_52 : decode cX12_mustBe 52 = .ok (.invokevirtual 406, 3) := by decide +kernel
theorem dX12_mustBe_55 : decode cX12_mustBe 55 = .ok (.iastore, 1) := by decide +kernel
theorem dX12_mustBe_56 : decode cX12_mustBe 56 = .ok (.aload_n 0, 1) := by decide +kernel
theorem dX12_mustBe_57 : decode cX12_mustBe 57 = .ok (.getfield 128, 3) := by decide +kernel
theorem dX12_mustBe_60 : decode cX12_mustBe 60 = .ok (.iload_n 1, 1) := by decide +kernel
theorem dX12_mustBe_61 : decode cX12_mustBe 61 = .ok (.aload_n 0, 1) := by decide +kernel
theorem dX12_mustBe_62 : decode cX12_mustBe 62 = .ok (.iconst 0, 1) := by decide +kernel
theorem dX12_mustBe_63 : decode cX12_mustBe 63 = .ok (.sipush 1439, 3) := by decide +kernel
theorem dX12_mustBe_66 : decode cX12_mustBe 66 = .ok (.invokevirtual 411, 3) := by decide +kernel
theorem dX12_mustBe_69 : decode cX12_mustBe 69 = .ok (.iastore, 1) := by decide +kernel
theorem dX12_mustBe_70 : decode cX12_mustBe 70 = .ok (.aload_n 0, 1) := by decide +kernel
theorem dX12_mustBe_71 : decode cX12_mustBe 71 = .ok (.getfield 131, 3) := by decide +kernel
theorem dX12_mustBe_74 : decode cX12_mustBe 74 = .ok (.iload_n 1, 1) := by decide +kernel
theorem dX12_mustBe_75 : decode cX12_mustBe 75 = .ok (.aload_n 0, 1) := by decide +kernel
theorem dX12_mustBe_76 : decode cX12_mustBe 76 = .ok (.aload_n 0, 1) := by decide +kernel
theorem dX12_mustBe_77 : decode cX12_mustBe 77 = .ok (.getfield 128, 3) := by decide +kernel
theorem dX12_mustBe_80 : decode cX12_mustBe 80 = .ok (.iload_n 1, 1) := by decide +kernel
theorem dX12_mustBe_81 : decode cX12_mustBe 81 = .ok (.iaload, 1) := by decide +kernel
theorem dX12_mustBe_82 : decode cX12_mustBe 82 = .ok (.sipush 1439, 3) := by decide +kernel
theorem dX12_mustBe_85 : decode cX12_mustBe 85 = .ok (.invokevirtual 411, 3) := by decide +kernel
theorem dX12_mustBe_88 : decode cX12_mustBe 88 = .ok (.iastore, 1) := by decide +kernel
theorem dX12_mustBe_89 : decode cX12_mustBe 89 = .ok (.aload_n 0, 1) := by decide +kernel
theorem dX12_mustBe_90 : decode cX12_mustBe 90 = .ok (.getfield 36, 3) := by decide +kernel
theorem dX12_mustBe_93 : decode cX12_mustBe 93 = .ok (.ifCond .ne 16, 3) := by decide +kernel
theorem dX12_mustBe_96 : decode cX12_mustBe 96 = .ok (.aload_n 0, 1) := by decide +kernel
theorem dX12_mustBe_97 : decode cX12_mustBe 97 = .ok (.getfield 122, 3) := by decide +kernel
theorem dX12_mustBe_100 : decode cX12_mustBe 100 = .ok (.aload_n 0, 1) := by decide +kernel
theorem dX12_mustBe_101 : decode cX12_mustBe 101 = .ok (.getfield 155, 3) := by decide +kernel
theorem dX12_mustBe_104 : decode cX12_mustBe 104 = .ok (.dup2, 1) := by decide +kernel
theorem dX12_mustBe_105 : decode cX12_mustBe 105 = .ok (.iaload, 1) := by decide +kernel
theorem dX12_mustBe_106 : decode cX12_mustBe 106 = .ok (.iconst 1, 1) := by decide +kernel
theorem dX12_mustBe_107 : decode cX12_mustBe 107 = .ok (.iadd, 1) := by decide +kernel
theorem dX12_mustBe_108 : decode cX12_mustBe 108 = .ok (.iastore, 1) := by decide +kernel
theorem dX12_mustBe_109 : decode cX12_mustBe 109 = .ok (.return_, 1) := by decide +kernel
theorem dX12_having_0 : decode cX12_having 0 = .ok (.aload_n 0, 1) := by decide +kernel
theorem dX12_having_1 : decode cX12_having 1 = .ok (.iconst 0, 1) := by decide +kernel
theorem dX12_having_2 : decode cX12_having 2 = .ok (.invokevirtual 394, 3) := by decide +kernel
theorem dX12_having_5 : decode cX12_having 5 = .ok (.ifCond .ne 4, 3) := by decide +kernel
theorem dX12_having_8 : decode cX12_having 8 = .ok (.return_, 1) := by decide +kernel
theorem dX12_having_9 : decode cX12_having 9 = .ok (.aload_n 0, 1) := by decide +kernel
theorem dX12_having_10 : decode cX12_having 10 = .ok (.iconst 3, 1) := by decide +kernel
theorem dX12_having_11 : decode cX12_having 11 = .ok (.invokevirtual 406, 3) := by decide +kernel
theorem dX12_having_14 : decode cX12_having 14 = .ok (.istore_n 1, 1) := by decide +kernel
theorem dX12_having_15 : decode cX12_having 15 = .ok (.aload_n 0, 1) := by decide +kernel
theorem dX12_having_16 : decode cX12_having 16 = .ok (.getfield 36, 3) := by decide +kernel
theorem dX12_having_19 : decode cX12_having 19 = .ok (.ifCond .ne 34, 3) := by decide +kernel
theorem dX12_having_22 : decode cX12_having 22 = .ok (.aload_n 0, 1) := by decide +kernel
theorem dX12_having_23 : decode cX12_having 23 = .ok (.getfield 20, 3) := by decide +kernel
theorem dX12_having_26 : decode cX12_having 26 = .ok (.iconst 1, 1) := by decide +kernel
theorem dX12_having_27 : decode cX12_having 27 = .ok (.if_icmp .ne 26, 3) := by decide +kernel
theorem dX12_having_30 : decode cX12_having 30 = .ok (.aload_n 0, 1) := by decide +kernel
theorem dX12_having_31 : decode cX12_having 31 = .ok (.aload_n 0, 1) := by decide +kernel
theorem dX12_having_32 : decode cX12_having 32 = .ok (.getfield 32, 3) := by decide +kernel
theorem dX12_having_35 : decode cX12_having 35 = .ok (.invokevirtual 387, 3) := by decide +kernel
theorem dX12_having_38 : decode cX12_having 38 = .ok (.ifCond .ne 15, 3) := by decide +kernel
theorem dX12_having_41 : decode cX12_having 41 = .ok (.aload_n 0, 1) := by decide +kernel
theorem dX12_having_42 : decode cX12_having 42 = .ok (.iconst 2, 1) := by decide +kernel
theorem dX12_having_43 : decode cX12_having 43 = .ok (.aload_n 0, 1) := by decide +kernel
theorem dX12_having_44 : decode cX12_having 44 = .ok (.getfield 32, 3) := by decide +kernel
theorem dX12_having_47 : decode cX12_having 47 = .ok (.invokevirtual 390, 3) := by decide +kernel
theorem dX12_having_50 : decode cX12_having 50 = .ok (.goto 4, 3) := by decide +kernel
theorem dX12_having_53 : decode cX12_having 53 = .ok (.iconst (-1), 1) := by decide +kernel
theorem dX12_having_54 : decode cX12_having 54 = .ok (.istore_n 2, 1) := by decide +kernel
theorem dX12_having_55 : decode cX12_having 55 = .ok (.iload_n 2, 1) := by decide +kernel
theorem dX12_having_56 : decode cX12_having 56 = .ok (.iconst (-1), 1) := by decide +kernel
theorem dX12_having_57 : decode cX12_having 57 = .ok (.if_icmp .eq 30, 3) := by decide +kernel
theorem dX12_having_60 : decode cX12_having 60 = .ok (.aload_n 0, 1) := by decide +kernel
theorem dX12_having_61 : decode cX12_having 61 = .ok (.getfield 86, 3) := by decide +kernel
theorem dX12_having_64 : decode cX12_having 64 = .ok (.iconst 4, 1) := by decide +kernel
theorem dX12_having_65 : decode cX12_having 65 = .ok (.aload_n 0, 1) := by decide +kernel
theorem dX12_having_66 : decode cX12_having 66 = .ok (.getfield 155, 3) := by decide +kernel
theorem dX12_having_69 : decode cX12_having 69 = .ok (.imul, 1) := by decide +kernel
theorem dX12_having_70 : decode cX12_having 70 = .ok (.iload_n 2, 1) := by decide +kernel
theorem dX12_having_71 : decode cX12_having 71 = .ok (.iadd, 1) := by decide +kernel
theorem dX12_having_72 : decode cX12_having 72 = .ok (.iaload, 1) := by decide +kernel
theorem dX12_having_73 : decode cX12_having 73 = .ok (.bipush 10, 2) := by decide +kernel
theorem dX12_having_75 : decode cX12_having 75 = .ok (.if_icmp .ge 12, 3) := by decide +kernel
theorem dX12_having_78 : decode cX12_having 78 = .ok (.aload_n 0, 1) := by decide +kernel
theorem dX12_having_79 : decode cX12_having 79 = .ok (.iconst 3, 1) := by decide +kernel
theorem dX12_having_80 : decode cX12_having 80 = .ok (.aload_n 0, 1) := by decide +kernel
theorem dX12_having_81 : decode cX12_having 81 = .ok (.getfield 23, 3) := by decide +kernel
theorem dX12_having_84 : decode cX12_having 84 = .ok (.invokevirtual 286, 3) := by decide +kernel
theorem dX12_having_87 : decode cX12_having 87 = .ok (.aload_n 0, 1) := by decide +kernel
theorem dX12_having_88 : decode cX12_having 88 = .ok (.iconst 2, 1) := by decide +kernel
theorem dX12_having_89 : decode cX12_having 89 = .ok (.invokevirtual 406, 3) := by decide +kernel
theorem dX12_having_92 : decode cX12_having 92 = .ok (.istore_n 2, 1) := by decide +kernel
theorem dX12_having_93 : decode cX12_having 93 = .ok (.aload_n 0, 1) := by decide +kernel
theorem dX12_having_94 : decode cX12_having 94 = .ok (.getfield 36, 3) := by decide +kernel
theorem dX12_having_97 : decode cX12_having 97 = .ok (.ifCond .ne 17, 3) := by decide +kernel
theorem dX12_having_100 : decode cX12_having 100 = .ok (.aload_n 0, 1) := by decide +kernel
theorem dX12_having_101 : decode cX12_having 101 = .ok (.getfield 86, 3) := by decide +kernel
theorem dX12_having_104 : decode cX12_having 104 = .ok (.iconst 4, 1) := by decide +kernel
theorem dX12_having_105 : decode cX12_having 105 = .ok (.aload_n 0, 1) := by decide +kernel
theorem dX12_having_106 : decode cX12_having 106 = .ok (.getfield 155, 3) := by decide +kernel
theorem dX12_having_109 : decode cX12_having 109 = .ok (.imul, 1) := by decide +kernel
theorem dX12_having_110 : decode cX12_having 110 = .ok (.iload_n 2, 1) := by decide +kernel
theorem dX12_having_111 : decode cX12_having 111 = .ok (.iadd, 1) := by decide +kernel
theorem dX12_having_112 : decode cX12_having 112 = .ok (.iload_n 1, 1) := by decide +kernel
theorem dX12_having_113 : decode cX12_having 113 = .ok (.iastore, 1) := by decide +kernel
theorem dX12_having_114 : decode cX12_having 114 = .ok (.return_, 1) := by decide +kernel
theorem dX12_door_0 : decode cX12_door 0 = .ok (.aload_n 0, 1) := by decide +kernel
theorem dX12_door_1 : decode cX12_door 1 = .ok (.aload_n 0, 1) := by decide +kernel
theorem dX12_door_2 : decode cX12_door 2 = .ok (.getfield 58, 3) := by decide +kernel
theorem dX12_door_5 : decode cX12_door 5 = .ok (.aload_n 0, 1) := by decide +kernel
theorem dX12_door_6 : decode cX12_door 6 = .ok (.getfield 155, 3) := by decide +kernel
theorem dX12_door_9 : decode cX12_door 9 = .ok (.iaload, 1) := by decide +kernel
theorem dX12_door_10 : decode cX12_door 10 = .ok (.bipush 10, 2) := by decide +kernel
theorem dX12_door_12 : decode cX12_door 12 = .ok (.if_icmp .ne 7, 3) := by decide +kernel
theorem dX12_door_15 : decode cX12_door 15 = .ok (.iconst 1, 1) := by decide +kernel
theorem dX12_door_16 : decode cX12_door 16 = .ok (.goto 4, 3) := by decide +kernel
theorem dX12_door_19 : decode cX12_door 19 = .ok (.iconst 0, 1) := by decide +kernel
theorem dX12_door_20 : decode cX12_door 20 = .ok (.invokevirtual 394, 3) := by decide +kernel
theorem dX12_door_23 : decode cX12_door 23 = .ok (.ifCond .ne 4, 3) := by decide +kernel
theorem dX12_door_26 : decode cX12_door 26 = .ok (.return_, 1) := by decide +kernel
theorem dX12_door_27 : decode cX12_door 27 = .ok (.bipush 10, 2) := by decide +kernel
theorem dX12_door_29 : decode cX12_door 29 = .ok (.aload_n 0, 1) := by decide +kernel
theorem dX12_door_30 : decode cX12_door 30 = .ok (.getfield 155, 3) := by decide +kernel
theorem dX12_door_33 : decode cX12_door 33 = .ok (.imul, 1) := by decide +kernel
theorem dX12_door_34 : decode cX12_door 34 = .ok (.aload_n 0, 1) := by decide +kernel
theorem dX12_door_35 : decode cX12_door 35 = .ok (.getfield 58, 3) := by decide +kernel
theorem dX12_door_38 : decode cX12_door 38 = .ok (.aload_n 0, 1) := by decide +kernel
theorem dX12_door_39 : decode cX12_door 39 = .ok (.getfield 155, 3) := by decide +kernel
theorem dX12_door_42 : decode cX12_door 42 = .ok (.iaload, 1) := by decide +kernel
theorem dX12_door_43 : decode cX12_door 43 = .ok (.iadd, 1) := by decide +kernel
theorem dX12_door_44 : decode cX12_door 44 = .ok (.istore_n 2, 1) := by decide +kernel
theorem dX12_door_45 : decode cX12_door 45 = .ok (.aload_n 0, 1) := by decide +kernel
theorem dX12_door_46 : decode cX12_door 46 = .ok (.getfield 61, 3) := by decide +kernel
theorem dX12_door_49 : decode cX12_door 49 = .ok (.iload_n 2, 1) := by decide +kernel
theorem dX12_door_50 : decode cX12_door 50 = .ok (.aload_n 0, 1) := by decide +kernel
theorem dX12_door_51 : decode cX12_door 51 = .ok (.invokevirtual 398, 3) := by decide +kernel
theorem dX12_door_54 : decode cX12_door 54 = .ok (.lastore, 1) := by decide +kernel
theorem dX12_door_55 : decode cX12_door 55 = .ok (.iload_n 1, 1) := by decide +kernel
theorem dX12_door_56 : decode cX12_door 56 = .ok (.ifCond .eq 10, 3) := by decide +kernel
theorem dX12_door_59 : decode cX12_door 59 = .ok (.aload_n 0, 1) := by decide +kernel
theorem dX12_door_60 : decode cX12_door 60 = .ok (.ldc2_w 302, 3) := by decide +kernel
theorem dX12_door_63 : decode cX12_door 63 = .ok (.invokevirtual 402, 3) := by decide +kernel
theorem dX12_door_66 : decode cX12_door 66 = .ok (.aload_n 0, 1) := by decide +kernel
theorem dX12_door_67 : decode cX12_door 67 = .ok (.getfield 64, 3) := by decide +kernel
theorem dX12_door_70 : decode cX12_door 70 = .ok (.iload_n 2, 1) := by decide +kernel
theorem dX12_door_71 : decode cX12_door 71 = .ok (.aload_n 0, 1) := by decide +kernel
theorem dX12_door_72 : decode cX12_door 72 = .ok (.iconst 0, 1) := by decide +kernel
theorem dX12_door_73 : decode cX12_door 73 = .ok (.invokevirtual 406, 3) := by decide +kernel
theorem dX12_door_76 : decode cX12_door 76 = .ok (.iastore, 1) := by decide +kernel
theorem dX12_door_77 : decode cX12_door 77 = .ok (.iload_n 1, 1) := by decide +kernel
theorem dX12_door_78 : decode cX12_door 78 = .ok (.ifCond .ne 14, 3) := by decide +kernel
theorem dX12_door_81 : decode cX12_door 81 = .ok (.aload_n 0, 1) := by decide +kernel
theorem dX12_door_82 : decode cX12_door 82 = .ok (.iconst 0, 1) := by decide +kernel
theorem dX12_door_83 : decode cX12_door 83 = .ok (.aload_n 0, 1) := by decide +kernel
theorem dX12_door_84 : decode cX12_door 84 = .ok (.getfield 64, 3) := by decide +kernel
theorem dX12_door_87 : decode cX12_door 87 = .ok (.iload_n 2, 1) := by decide +kernel
theorem dX12_door_88 : decode cX12_door 88 = .ok (.iaload, 1) := by decide +kernel
theorem dX12_door_89 : decode cX12_door 89 = .ok (.invokevirtual 409, 3) := by decide +kernel
theorem dX12_door_92 : decode cX12_door 92 = .ok (.aload_n 0, 1) := by decide +kernel
theorem dX12_door_93 : decode cX12_door 93 = .ok (.getfield 67, 3) := by decide +kernel
theorem dX12_door_96 : decode cX12_door 96 = .ok (.iload_n 2, 1) := by decide +kernel
theorem dX12_door_97 : decode cX12_door 97 = .ok (.iload_n 1, 1) := by decide +kernel
theorem dX12_door_98 : decode cX12_door 98 = .ok (.ifCond .eq 12, 3) := by decide +kernel
theorem dX12_door_101 : decode cX12_door 101 = .ok (.aload_n 0, 1) := by decide +kernel
theorem dX12_door_102 : decode cX12_door 102 = .ok (.getfield 64, 3) := by decide +kernel
theorem dX12_door_105 : decode cX12_door 105 = .ok (.iload_n 2, 1) := by decide +kernel
theorem dX12_door_106 : decode cX12_door 106 = .ok (.iaload, 1) := by decide +kernel
theorem dX12_door_107 : decode cX12_door 107 = .ok (.goto 8, 3) := by decide +kernel
theorem dX12_door_110 : decode cX12_door 110 = .ok (.aload_n 0, 1) := by decide +kernel
theorem dX12_door_111 : decode cX12_door 111 = .ok (.iconst 0, 1) := by decide +kernel
theorem dX12_door_112 : decode cX12_door 112 = .ok (.invokevirtual 406, 3) := by decide +kernel
theorem dX12_door_115 : decode cX12_door 115 = .ok (.iastore, 1) := by decide +kernel
theorem dX12_door_116 : decode cX12_door 116 = .ok (.aload_n 0, 1) := by decide +kernel
theorem dX12_door_117 : decode cX12_door 117 = .ok (.getfield 70, 3) := by decide +kernel
theorem dX12_door_120 : decode cX12_door 120 = .ok (.iload_n 2, 1) := by decide +kernel
theorem dX12_door_121 : decode cX12_door 121 = .ok (.iload_n 1, 1) := by decide +kernel
theorem dX12_door_122 : decode cX12_door 122 = .ok (.bastore, 1) := by decide +kernel
theorem dX12_door_123 : decode cX12_door 123 = .ok (.aload_n 0, 1) := by decide +kernel
theorem dX12_door_124 : decode cX12_door 124 = .ok (.getfield 74, 3) := by decide +kernel
theorem dX12_door_127 : decode cX12_door 127 = .ok (.iload_n 2, 1) := by decide +kernel
theorem dX12_door_128 : decode cX12_door 128 = .ok (.iload_n 1, 1) := by decide +kernel
theorem dX12_door_129 : decode cX12_door 129 = .ok (.ifCond .eq 7, 3) := by decide +kernel
theorem dX12_door_132 : decode cX12_door 132 = .ok (.iconst 0, 1) := by decide +kernel
theorem dX12_door_133 : decode cX12_door 133 = .ok (.goto 10, 3) := by decide +kernel
theorem dX12_door_136 : decode cX12_door 136 = .ok (.aload_n 0, 1) := by decide +kernel
theorem dX12_door_137 : decode cX12_door 137 = .ok (.iconst 1, 1) := by decide +kernel
theorem dX12_door_138 : decode cX12_door 138 = .ok (.bipush 99, 2) := by decide +kernel
theorem dX12_door_140 : decode cX12_door 140 = .ok (.invokevirtual 411, 3) := by decide +kernel
theorem dX12_door_143 : decode cX12_door 143 = .ok (.iastore, 1) := by decide +kernel
theorem dX12_door_144 : decode cX12_door 144 = .ok (.aload_n 0, 1) := by decide +kernel
theorem dX12_door_145 : decode cX12_door 145 = .ok (.getfield 77, 3) := by decide +kernel
theorem dX12_door_148 : decode cX12_door 148 = .ok (.iload_n 2, 1) := by decide +kernel
theorem dX12_door_149 : decode cX12_door 149 = .ok (.iconst 0, 1) := by decide +kernel
theorem dX12_door_150 : decode cX12_door 150 = .ok (.bastore, 1) := by decide +kernel
theorem dX12_door_151 : decode cX12_door 151 = .ok (.aload_n 0, 1) := by decide +kernel
theorem dX12_door_152 : decode cX12_door 152 = .ok (.getfield 36, 3) := by decide +kernel
theorem dX12_door_155 : decode cX12_door 155 = .ok (.ifCond .ne 16, 3) := by decide +kernel
theorem dX12_door_158 : decode cX12_door 158 = .ok (.aload_n 0, 1) := by decide +kernel
theorem dX12_door_159 : decode cX12_door 159 = .ok (.getfield 58, 3) := by decide +kernel
theorem dX12_door_162 : decode cX12_door 162 = .ok (.aload_n 0, 1) := by decide +kernel
theorem dX12_door_163 : decode cX12_door 163 = .ok (.getfield 155, 3) := by decide +kernel
theorem dX12_door_166 : decode cX12_door 166 = .ok (.dup2, 1) := by decide +kernel
theorem dX12_door_167 : decode cX12_door 167 = .ok (.iaload, 1) := by decide +kernel
theorem dX12_door_168 : decode cX12_door 168 = .ok (.iconst 1, 1) := by decide +kernel
theorem dX12_door_169 : decode cX12_door 169 = .ok (.iadd, 1) := by decide +kernel
theorem dX12_door_170 : decode cX12_door 170 = .ok (.iastore, 1) := by decide +kernel
theorem dX12_door_171 : decode cX12_door 171 = .ok (.return_, 1) := by decide +kernel
/-! Depth of a row of codes. -/
def ds (op : Int) : Int := if op ≤ 9 then 1 else if op = 22 then 0 else -1
def dep (f : Nat → Int) (s : Nat) : Nat → Int
  | 0 => 0
  | n + 1 => dep f s n + ds (f (s + n))
def okc (f : Nat → Int) (s n : Nat) : Prop := f (s + n) ≤ 9 ∨ (f (s + n) = 22 ∧ 1 ≤ dep f s n) ∨ (10 ≤ f (s + n) ∧ f (s + n) ≤ 21 ∧ 2 ≤ dep f s n)
def wfc (f : Nat → Int) (s len : Nat) : Prop := 1 ≤ dep f s len ∧ ∀ n, n < len → okc f s n
theorem dep_out {f : Nat → Int} {s i : Nat} {v : Int} : ∀ n, s + n ≤ i → dep (up f i v) s n = dep f s n
  | 0, _ => rfl
  | n + 1, h => by
    unfold dep
    rw [dep_out n (by omega), up_ne _ _ (show s + n ≠ i by omega)]
theorem okc_out {f : Nat → Int} {s i n : Nat} {v : Int} (h : s + n < i) : okc (up f i v) s n ↔ okc f s n := by
  unfold okc
  rw [dep_out n (by omega), up_ne _ _ (show s + n ≠ i by omega)]
