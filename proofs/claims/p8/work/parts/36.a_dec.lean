theorem dX12_agrees_0 : decode cX12_agrees 0 = .ok (.aload_n 0, 1) := by decide +kernel
theorem dX12_agrees_1 : decode cX12_agrees 1 = .ok (.aload_n 0, 1) := by decide +kernel
theorem dX12_agrees_2 : decode cX12_agrees 2 = .ok (.getfield 250, 3) := by decide +kernel
theorem dX12_agrees_5 : decode cX12_agrees 5 = .ok (.putfield 256, 3) := by decide +kernel
theorem dX12_agrees_8 : decode cX12_agrees 8 = .ok (.iconst 0, 1) := by decide +kernel
theorem dX12_agrees_9 : decode cX12_agrees 9 = .ok (.istore_n 1, 1) := by decide +kernel
theorem dX12_agrees_10 : decode cX12_agrees 10 = .ok (.iload_n 1, 1) := by decide +kernel
theorem dX12_agrees_11 : decode cX12_agrees 11 = .ok (.aload_n 0, 1) := by decide +kernel
theorem dX12_agrees_12 : decode cX12_agrees 12 = .ok (.getfield 241, 3) := by decide +kernel
theorem dX12_agrees_15 : decode cX12_agrees 15 = .ok (.if_icmp .ge 72, 3) := by decide +kernel
theorem dX12_agrees_18 : decode cX12_agrees 18 = .ok (.aload_n 0, 1) := by decide +kernel
theorem dX12_agrees_19 : decode cX12_agrees 19 = .ok (.getfield 256, 3) := by decide +kernel
theorem dX12_agrees_22 : decode cX12_agrees 22 = .ok (.ifCond .le 27, 3) := by decide +kernel
theorem dX12_agrees_25 : decode cX12_agrees 25 = .ok (.aload_n 0, 1) := by decide +kernel
theorem dX12_agrees_26 : decode cX12_agrees 26 = .ok (.getfield 253, 3) := by decide +kernel
theorem dX12_agrees_29 : decode cX12_agrees 29 = .ok (.aload_n 0, 1) := by decide +kernel
theorem dX12_agrees_30 : decode cX12_agrees 30 = .ok (.getfield 256, 3) := by decide +kernel
theorem dX12_agrees_33 : decode cX12_agrees 33 = .ok (.iconst 1, 1) := by decide +kernel
theorem dX12_agrees_34 : decode cX12_agrees 34 = .ok (.isub, 1) := by decide +kernel
theorem dX12_agrees_35 : decode cX12_agrees 35 = .ok (.iaload, 1) := by decide +kernel
theorem dX12_agrees_36 : decode cX12_agrees 36 = .ok (.aload_n 0, 1) := by decide +kernel
theorem dX12_agrees_37 : decode cX12_agrees 37 = .ok (.getfield 244, 3) := by decide +kernel
theorem dX12_agrees_40 : decode cX12_agrees 40 = .ok (.iload_n 1, 1) := by decide +kernel
theorem dX12_agrees_41 : decode cX12_agrees 41 = .ok (.iaload, 1) := by decide +kernel
theorem dX12_agrees_42 : decode cX12_agrees 42 = .ok (.if_icmp .ne 7, 3) := by decide +kernel
theorem dX12_agrees_45 : decode cX12_agrees 45 = .ok (.iconst 1, 1) := by decide +kernel
theorem dX12_agrees_46 : decode cX12_agrees 46 = .ok (.goto 4, 3) := by decide +kernel
theorem dX12_agrees_49 : decode cX12_agrees 49 = .ok (.iconst 0, 1) := by decide +kernel
theorem dX12_agrees_50 : decode cX12_agrees 50 = .ok (.istore_n 2, 1) := by decide +kernel
theorem dX12_agrees_51 : decode cX12_agrees 51 = .ok (.iload_n 2, 1) := by decide +kernel
theorem dX12_agrees_52 : decode cX12_agrees 52 = .ok (.aload_n 0, 1) := by decide +kernel
theorem dX12_agrees_53 : decode cX12_agrees 53 = .ok (.getfield 247, 3) := by decide +kernel
theorem dX12_agrees_56 : decode cX12_agrees 56 = .ok (.iload_n 1, 1) := by decide +kernel
theorem dX12_agrees_57 : decode cX12_agrees 57 = .ok (.baload, 1) := by decide +kernel
theorem dX12_agrees_58 : decode cX12_agrees 58 = .ok (.if_icmp .eq 5, 3) := by decide +kernel
theorem dX12_agrees_61 : decode cX12_agrees 61 = .ok (.iconst 0, 1) := by decide +kernel
theorem dX12_agrees_62 : decode cX12_agrees 62 = .ok (.ireturn, 1) := by decide +kernel
theorem dX12_agrees_63 : decode cX12_agrees 63 = .ok (.aload_n 0, 1) := by decide +kernel
theorem dX12_agrees_64 : decode cX12_agrees 64 = .ok (.dup, 1) := by decide +kernel
theorem dX12_agrees_65 : decode cX12_agrees 65 = .ok (.getfield 256, 3) := by decide +kernel
theorem dX12_agrees_68 : decode cX12_agrees 68 = .ok (.iload_n 2, 1) := by decide +kernel
theorem dX12_agrees_69 : decode cX12_agrees 69 = .ok (.ifCond .eq 7, 3) := by decide +kernel
theorem dX12_agrees_72 : decode cX12_agrees 72 = .ok (.iconst 1, 1) := by decide +kernel
theorem dX12_agrees_73 : decode cX12_agrees 73 = .ok (.goto 4, 3) := by decide +kernel
theorem dX12_agrees_76 : decode cX12_agrees 76 = .ok (.iconst 0, 1) := by decide +kernel
theorem dX12_agrees_77 : decode cX12_agrees 77 = .ok (.isub, 1) := by decide +kernel
theorem dX12_agrees_78 : decode cX12_agrees 78 = .ok (.putfield 256, 3) := by decide +kernel
theorem dX12_agrees_81 : decode cX12_agrees 81 = .ok (.iinc 1 1, 3) := by decide +kernel
theorem dX12_agrees_84 : decode cX12_agrees 84 = .ok (.goto (-74), 3) := by decide +kernel
theorem dX12_agrees_87 : decode cX12_agrees 87 = .ok (.iconst 1, 1) := by decide +kernel
theorem dX12_agrees_88 : decode cX12_agrees 88 = .ok (.ireturn, 1) := by decide +kernel
theorem dX12_isRow_0 : decode cX12_isRow 0 = .ok (.aload_n 0, 1) := by decide +kernel
theorem dX12_isRow_1 : decode cX12_isRow 1 = .ok (.iload_n 1, 1) := by decide +kernel
theorem dX12_isRow_2 : decode cX12_isRow 2 = .ok (.putfield 250, 3) := by decide +kernel
theorem dX12_isRow_5 : decode cX12_isRow 5 = .ok (.iload_n 2, 1) := by decide +kernel
theorem dX12_isRow_6 : decode cX12_isRow 6 = .ok (.istore_n 3, 1) := by decide +kernel
theorem dX12_isRow_7 : decode cX12_isRow 7 = .ok (.iload_n 1, 1) := by decide +kernel
theorem dX12_isRow_8 : decode cX12_isRow 8 = .ok (.iconst 1, 1) := by decide +kernel
theorem dX12_isRow_9 : decode cX12_isRow 9 = .ok (.isub, 1) := by decide +kernel
theorem dX12_isRow_10 : decode cX12_isRow 10 = .ok (.istore 4, 2) := by decide +kernel
theorem dX12_isRow_12 : decode cX12_isRow 12 = .ok (.iload 4, 2) := by decide +kernel
theorem dX12_isRow_14 : decode cX12_isRow 14 = .ok (.ifCond .lt 25, 3) := by decide +kernel
theorem dX12_isRow_17 : decode cX12_isRow 17 = .ok (.aload_n 0, 1) := by decide +kernel
theorem dX12_isRow_18 : decode cX12_isRow 18 = .ok (.getfield 253, 3) := by decide +kernel
theorem dX12_isRow_21 : decode cX12_isRow 21 = .ok (.iload 4, 2) := by decide +kernel
theorem dX12_isRow_23 : decode cX12_isRow 23 = .ok (.iload_n 3, 1) := by decide +kernel
theorem dX12_isRow_24 : decode cX12_isRow 24 = .ok (.bipush 10, 2) := by decide +kernel
theorem dX12_isRow_26 : decode cX12_isRow 26 = .ok (.irem, 1) := by decide +kernel
theorem dX12_isRow_27 : decode cX12_isRow 27 = .ok (.iastore, 1) := by decide +kernel
theorem dX12_isRow_28 : decode cX12_isRow 28 = .ok (.iload_n 3, 1) := by decide +kernel
theorem dX12_isRow_29 : decode cX12_isRow 29 = .ok (.bipush 10, 2) := by decide +kernel
theorem dX12_isRow_31 : decode cX12_isRow 31 = .ok (.idiv, 1) := by decide +kernel
theorem dX12_isRow_32 : decode cX12_isRow 32 = .ok (.istore_n 3, 1) := by decide +kernel
theorem dX12_isRow_33 : decode cX12_isRow 33 = .ok (.iinc 4 (-1), 3) := by decide +kernel
theorem dX12_isRow_36 : decode cX12_isRow 36 = .ok (.goto (-24), 3) := by decide +kernel
theorem dX12_isRow_39 : decode cX12_isRow 39 = .ok (.iconst 0, 1) := by decide +kernel
theorem dX12_isRow_40 : decode cX12_isRow 40 = .ok (.istore 4, 2) := by decide +kernel
theorem dX12_isRow_42 : decode cX12_isRow 42 = .ok (.iload 4, 2) := by decide +kernel
theorem dX12_isRow_44 : decode cX12_isRow 44 = .ok (.iload_n 1, 1) := by decide +kernel
theorem dX12_isRow_45 : decode cX12_isRow 45 = .ok (.if_icmp .ge 79, 3) := by decide +kernel
theorem dX12_isRow_48 : decode cX12_isRow 48 = .ok (.aload_n 0, 1) := by decide +kernel
theorem dX12_isRow_49 : decode cX12_isRow 49 = .ok (.aload_n 0, 1) := by decide +kernel
theorem dX12_isRow_50 : decode cX12_isRow 50 = .ok (.getfield 253, 3) := by decide +kernel
theorem dX12_isRow_53 : decode cX12_isRow 53 = .ok (.iload 4, 2) := by decide +kernel
theorem dX12_isRow_55 : decode cX12_isRow 55 = .ok (.iaload, 1) := by decide +kernel
theorem dX12_isRow_56 : decode cX12_isRow 56 = .ok (.invokevirtual 507, 3) := by decide +kernel
theorem dX12_isRow_59 : decode cX12_isRow 59 = .ok (.ifCond .eq 22, 3) := by decide +kernel
theorem dX12_isRow_62 : decode cX12_isRow 62 = .ok (.aload_n 0, 1) := by decide +kernel
theorem dX12_isRow_63 : decode cX12_isRow 63 = .ok (.getfield 77, 3) := by decide +kernel
theorem dX12_isRow_66 : decode cX12_isRow 66 = .ok (.aload_n 0, 1) := by decide +kernel
theorem dX12_isRow_67 : decode cX12_isRow 67 = .ok (.aload_n 0, 1) := by decide +kernel
theorem dX12_isRow_68 : decode cX12_isRow 68 = .ok (.getfield 253, 3) := by decide +kernel
theorem dX12_isRow_71 : decode cX12_isRow 71 = .ok (.iload 4, 2) := by decide +kernel
theorem dX12_isRow_73 : decode cX12_isRow 73 = .ok (.iaload, 1) := by decide +kernel
theorem dX12_isRow_74 : decode cX12_isRow 74 = .ok (.invokevirtual 487, 3) := by decide +kernel
theorem dX12_isRow_77 : decode cX12_isRow 77 = .ok (.baload, 1) := by decide +kernel
theorem dX12_isRow_78 : decode cX12_isRow 78 = .ok (.ifCond .ne 5, 3) := by decide +kernel
theorem dX12_isRow_81 : decode cX12_isRow 81 = .ok (.iconst 0, 1) := by decide +kernel
theorem dX12_isRow_82 : decode cX12_isRow 82 = .ok (.ireturn, 1) := by decide +kernel
theorem dX12_isRow_83 : decode cX12_isRow 83 = .ok (.iconst 0, 1) := by decide +kernel
theorem dX12_isRow_84 : decode cX12_isRow 84 = .ok (.istore 5, 2) := by decide +kernel
theorem dX12_isRow_86 : decode cX12_isRow 86 = .ok (.iload 5, 2) := by decide +kernel
theorem dX12_isRow_88 : decode cX12_isRow 88 = .ok (.iload 4, 2) := by decide +kernel
theorem dX12_isRow_90 : decode cX12_isRow 90 = .ok (.if_icmp .ge 28, 3) := by decide +kernel
theorem dX12_isRow_93 : decode cX12_isRow 93 = .ok (.aload_n 0, 1) := by decide +kernel
theorem dX12_isRow_94 : decode cX12_isRow 94 = .ok (.getfield 253, 3) := by decide +kernel
theorem dX12_isRow_97 : decode cX12_isRow 97 = .ok (.iload 5, 2) := by decide +kernel
theorem dX12_isRow_99 : decode cX12_isRow 99 = .ok (.iaload, 1) := by decide +kernel
theorem dX12_isRow_100 : decode cX12_isRow 100 = .ok (.aload_n 0, 1) := by decide +kernel
theorem dX12_isRow_101 : decode cX12_isRow 101 = .ok (.getfield 253, 3) := by decide +kernel
theorem dX12_isRow_104 : decode cX12_isRow 104 = .ok (.iload 4, 2) := by decide +kernel
theorem dX12_isRow_106 : decode cX12_isRow 106 = .ok (.iaload, 1) := by decide +kernel
theorem dX12_isRow_107 : decode cX12_isRow 107 = .ok (.if_icmp .ne 5, 3) := by decide +kernel
theorem dX12_isRow_110 : decode cX12_isRow 110 = .ok (.iconst 0, 1) := by decide +kernel
theorem dX12_isRow_111 : decode cX12_isRow 111 = .ok (.ireturn, 1) := by decide +kernel
theorem dX12_isRow_112 : decode cX12_isRow 112 = .ok (.iinc 5 1, 3) := by decide +kernel
theorem dX12_isRow_115 : decode cX12_isRow 115 = .ok (.goto (-29), 3) := by decide +kernel
theorem dX12_isRow_118 : decode cX12_isRow 118 = .ok (.iinc 4 1, 3) := by decide +kernel
theorem dX12_isRow_121 : decode cX12_isRow 121 = .ok (.goto (-79), 3) := by decide +kernel
theorem dX12_isRow_124 : decode cX12_isRow 124 = .ok (.iconst 1, 1) := by decide +kernel
theorem dX12_isRow_125 : decode cX12_isRow 125 = .ok (.ireturn, 1) := by decide +kernel
theorem dX12_fitting_0 : decode cX12_fitting 0 = .ok (.iconst 0, 1) := by decide +kernel
theorem dX12_fitting_1 : decode cX12_fitting 1 = .ok (.istore_n 2, 1) := by decide +kernel
theorem dX12_fitting_2 : decode cX12_fitting 2 = .ok (.iconst 1, 1) := by decide +kernel
theorem dX12_fitting_3 : decode cX12_fitting 3 = .ok (.istore_n 3, 1) := by decide +kernel
theorem dX12_fitting_4 : decode cX12_fitting 4 = .ok (.iconst 0, 1) := by decide +kernel
theorem dX12_fitting_5 : decode cX12_fitting 5 = .ok (.istore 4, 2) := by decide +kernel
theorem dX12_fitting_7 : decode cX12_fitting 7 = .ok (.iload 4, 2) := by decide +kernel
theorem dX12_fitting_9 : decode cX12_fitting 9 = .ok (.iconst 3, 1) := by decide +kernel
theorem dX12_fitting_10 : decode cX12_fitting 10 = .ok (.if_icmp .gt 82, 3) := by decide +kernel
theorem dX12_fitting_13 : decode cX12_fitting 13 = .ok (.iconst 0, 1) := by decide +kernel
theorem dX12_fitting_14 : decode cX12_fitting 14 = .ok (.istore 5, 2) := by decide +kernel
theorem dX12_fitting_16 : decode cX12_fitting 16 = .ok (.iload 5, 2) := by decide +kernel
theorem dX12_fitting_18 : decode cX12_fitting 18 = .ok (.iload_n 3, 1) := by decide +kernel
theorem dX12_fitting_19 : decode cX12_fitting 19 = .ok (.if_icmp .ge 62, 3) := by decide +kernel
theorem dX12_fitting_22 : decode cX12_fitting 22 = .ok (.iload_n 2, 1) := by decide +kernel
theorem dX12_fitting_23 : decode cX12_fitting 23 = .ok (.aload_n 0, 1) := by decide +kernel
theorem dX12_fitting_24 : decode cX12_fitting 24 = .ok (.iload 4, 2) := by decide +kernel
theorem dX12_fitting_26 : decode cX12_fitting 26 = .ok (.iload 5, 2) := by decide +kernel
theorem dX12_fitting_28 : decode cX12_fitting 28 = .ok (.invokevirtual 618, 3) := by decide +kernel
theorem dX12_fitting_31 : decode cX12_fitting 31 = .ok (.ifCond .eq 41, 3) := by decide +kernel
theorem dX12_fitting_34 : decode cX12_fitting 34 = .ok (.aload_n 0, 1) := by decide +kernel
theorem dX12_fitting_35 : decode cX12_fitting 35 = .ok (.invokevirtual 621, 3) := by decide +kernel
theorem dX12_fitting_38 : decode cX12_fitting 38 = .ok (.ifCond .eq 34, 3) := by decide +kernel
theorem dX12_fitting_41 : decode cX12_fitting 41 = .ok (.iload_n 1, 1) := by decide +kernel
theorem dX12_fitting_42 : decode cX12_fitting 42 = .ok (.iconst (-1), 1) := by decide +kernel
theorem dX12_fitting_43 : decode cX12_fitting 43 = .ok (.if_icmp .eq 25, 3) := by decide +kernel
theorem dX12_fitting_46 : decode cX12_fitting 46 = .ok (.aload_n 0, 1) := by decide +kernel
theorem dX12_fitting_47 : decode cX12_fitting 47 = .ok (.getfield 256, 3) := by decide +kernel
theorem dX12_fitting_50 : decode cX12_fitting 50 = .ok (.ifCond .le 22, 3) := by decide +kernel
theorem dX12_fitting_53 : decode cX12_fitting 53 = .ok (.aload_n 0, 1) := by decide +kernel
theorem dX12_fitting_54 : decode cX12_fitting 54 = .ok (.getfield 253, 3) := by decide +kernel
theorem dX12_fitting_57 : decode cX12_fitting 57 = .ok (.aload_n 0, 1) := by decide +kernel
theorem dX12_fitting_58 : decode cX12_fitting 58 = .ok (.getfield 256, 3) := by decide +kernel
theorem dX12_fitting_61 : decode cX12_fitting 61 = .ok (.iconst 1, 1) := by decide +kernel
theorem dX12_fitting_62 : decode cX12_fitting 62 = .ok (.isub, 1) := by decide +kernel
theorem dX12_fitting_63 : decode cX12_fitting 63 = .ok (.iaload, 1) := by decide +kernel
theorem dX12_fitting_64 : decode cX12_fitting 64 = .ok (.iload_n 1, 1) := by decide +kernel
theorem dX12_fitting_65 : decode cX12_fitting 65 = .ok (.if_icmp .ne 7, 3) := by decide +kernel
theorem dX12_fitting_68 : decode cX12_fitting 68 = .ok (.iconst 1, 1) := by decide +kernel
theorem dX12_fitting_69 : decode cX12_fitting 69 = .ok (.goto 4, 3) := by decide +kernel
theorem dX12_fitting_72 : decode cX12_fitting 72 = .ok (.iconst 0, 1) := by decide +kernel
theorem dX12_fitting_73 : decode cX12_fitting 73 = .ok (.iadd, 1) := by decide +kernel
theorem dX12_fitting_74 : decode cX12_fitting 74 = .ok (.istore_n 2, 1) := by decide +kernel
theorem dX12_fitting_75 : decode cX12_fitting 75 = .ok (.iinc 5 1, 3) := by decide +kernel
theorem dX12_fitting_78 : decode cX12_fitting 78 = .ok (.goto (-62), 3) := by decide +kernel
theorem dX12_fitting_81 : decode cX12_fitting 81 = .ok (.iload_n 3, 1) := by decide +kernel
theorem dX12_fitting_82 : decode cX12_fitting 82 = .ok (.bipush 10, 2) := by decide +kernel
theorem dX12_fitting_84 : decode cX12_fitting 84 = .ok (.imul, 1) := by decide +kernel
theorem dX12_fitting_85 : decode cX12_fitting 85 = .ok (.istore_n 3, 1) := by decide +kernel
theorem dX12_fitting_86 : decode cX12_fitting 86 = .ok (.iinc 4 1, 3) := by decide +kernel
theorem dX12_fitting_89 : decode cX12_fitting 89 = .ok (.goto (-82), 3) := by decide +kernel
theorem dX12_fitting_92 : decode cX12_fitting 92 = .ok (.iload_n 2, 1) := by decide +kernel
theorem dX12_fitting_93 : decode cX12_fitting 93 = .ok (.ireturn, 1) := by decide +kernel
theorem dX12_trial_0 : decode cX12_trial 0 = .ok (.aload_n 0, 1) := by decide +kernel
theorem dX12_trial_1 : decode cX12_trial 1 = .ok (.iload_n 1, 1) := by decide +kernel
theorem dX12_trial_2 : decode cX12_trial 2 = .ok (.invokevirtual 507, 3) := by decide +kernel
theorem dX12_trial_5 : decode cX12_trial 5 = .ok (.ifCond .eq 12, 3) := by decide +kernel
theorem dX12_trial_8 : decode cX12_trial 8 = .ok (.aload_n 0, 1) := by decide +kernel
theorem dX12_trial_9 : decode cX12_trial 9 = .ok (.getfield 241, 3) := by decide +kernel
theorem dX12_trial_12 : decode cX12_trial 12 = .ok (.bipush 20, 2) := by decide +kernel
theorem dX12_trial_14 : decode cX12_trial 14 = .ok (.if_icmp .ne 9, 3) := by decide +kernel
theorem dX12_trial_17 : decode cX12_trial 17 = .ok (.aload_n 0, 1) := by decide +kernel
theorem dX12_trial_18 : decode cX12_trial 18 = .ok (.iconst 4, 1) := by decide +kernel
theorem dX12_trial_19 : decode cX12_trial 19 = .ok (.invokevirtual 271, 3) := by decide +kernel
theorem dX12_trial_22 : decode cX12_trial 22 = .ok (.ireturn, 1) := by decide +kernel
theorem dX12_trial_23 : decode cX12_trial 23 = .ok (.aload_n 0, 1) := by decide +kernel
theorem dX12_trial_24 : decode cX12_trial 24 = .ok (.getfield 244, 3) := by decide +kernel
theorem dX12_trial_27 : decode cX12_trial 27 = .ok (.aload_n 0, 1) := by decide +kernel
theorem dX12_trial_28 : decode cX12_trial 28 = .ok (.getfield 241, 3) := by decide +kernel
theorem dX12_trial_31 : decode cX12_trial 31 = .ok (.iload_n 1, 1) := by decide +kernel
theorem dX12_trial_32 : decode cX12_trial 32 = .ok (.iastore, 1) := by decide +kernel
theorem dX12_trial_33 : decode cX12_trial 33 = .ok (.aload_n 0, 1) := by decide +kernel
theorem dX12_trial_34 : decode cX12_trial 34 = .ok (.getfield 247, 3) := by decide +kernel
theorem dX12_trial_37 : decode cX12_trial 37 = .ok (.aload_n 0, 1) := by decide +kernel
theorem dX12_trial_38 : decode cX12_trial 38 = .ok (.getfield 241, 3) := by decide +kernel
theorem dX12_trial_41 : decode cX12_trial 41 = .ok (.iload_n 2, 1) := by decide +kernel
theorem dX12_trial_42 : decode cX12_trial 42 = .ok (.bastore, 1) := by decide +kernel
theorem dX12_trial_43 : decode cX12_trial 43 = .ok (.aload_n 0, 1) := by decide +kernel
theorem dX12_trial_44 : decode cX12_trial 44 = .ok (.dup, 1) := by decide +kernel
theorem dX12_trial_45 : decode cX12_trial 45 = .ok (.getfield 241, 3) := by decide +kernel
theorem dX12_trial_48 : decode cX12_trial 48 = .ok (.iconst 1, 1) := by decide +kernel
theorem dX12_trial_49 : decode cX12_trial 49 = .ok (.iadd, 1) := by decide +kernel
theorem dX12_trial_50 : decode cX12_trial 50 = .ok (.putfield 241, 3) := by decide +kernel
theorem dX12_trial_53 : decode cX12_trial 53 = .ok (.aload_n 0, 1) := by decide +kernel
theorem dX12_trial_54 : decode cX12_trial 54 = .ok (.iconst (-1), 1) := by decide +kernel
theorem dX12_trial_55 : decode cX12_trial 55 = .ok (.invokevirtual 624, 3) := by decide +kernel
theorem dX12_trial_58 : decode cX12_trial 58 = .ok (.ireturn, 1) := by decide +kernel
theorem dX12_fits_0 : decode cX12_fits 0 = .ok (.iload_n 1, 1) := by decide +kernel
theorem dX12_fits_1 : decode cX12_fits 1 = .ok (.iconst (-1), 1) := by decide +kernel
theorem dX12_fits_2 : decode cX12_fits 2 = .ok (.if_icmp .ne 9, 3) := by decide +kernel
theorem dX12_fits_5 : decode cX12_fits 5 = .ok (.aload_n 0, 1) := by decide +kernel
theorem dX12_fits_6 : decode cX12_fits 6 = .ok (.iconst (-1), 1) := by decide +kernel
theorem dX12_fits_7 : decode cX12_fits 7 = .ok (.invokevirtual 624, 3) := by decide +kernel
theorem dX12_fits_10 : decode cX12_fits 10 = .ok (.ireturn, 1) := by decide +kernel
theorem dX12_fits_11 : decode cX12_fits 11 = .ok (.iconst 1, 1) := by decide +kernel
theorem dX12_fits_12 : decode cX12_fits 12 = .ok (.istore_n 2, 1) := by decide +kernel
theorem dX12_fits_13 : decode cX12_fits 13 = .ok (.iconst 0, 1) := by decide +kernel
theorem dX12_fits_14 : decode cX12_fits 14 = .ok (.istore_n 3, 1) := by decide +kernel
theorem dX12_fits_15 : decode cX12_fits 15 = .ok (.iload_n 3, 1) := by decide +kernel
theorem dX12_fits_16 : decode cX12_fits 16 = .ok (.iconst 3, 1) := by decide +kernel
theorem dX12_fits_17 : decode cX12_fits 17 = .ok (.if_icmp .gt 68, 3) := by decide +kernel
theorem dX12_fits_20 : decode cX12_fits 20 = .ok (.iconst 0, 1) := by decide +kernel
theorem dX12_fits_21 : decode cX12_fits 21 = .ok (.istore 4, 2) := by decide +kernel
theorem dX12_fits_23 : decode cX12_fits 23 = .ok (.iload 4, 2) := by decide +kernel
theorem dX12_fits_25 : decode cX12_fits 25 = .ok (.iload_n 2, 1) := by decide +kernel
theorem dX12_fits_26 : decode cX12_fits 26 = .ok (.if_icmp .ge 48, 3) := by decide +kernel
theorem dX12_fits_29 : decode cX12_fits 29 = .ok (.aload_n 0, 1) := by decide +kernel
theorem dX12_fits_30 : decode cX12_fits 30 = .ok (.iload_n 3, 1) := by decide +kernel
theorem dX12_fits_31 : decode cX12_fits 31 = .ok (.iload 4, 2) := by decide +kernel
theorem dX12_fits_33 : decode cX12_fits 33 = .ok (.invokevirtual 618, 3) := by decide +kernel
theorem dX12_fits_36 : decode cX12_fits 36 = .ok (.ifCond .eq 32, 3) := by decide +kernel
theorem dX12_fits_39 : decode cX12_fits 39 = .ok (.aload_n 0, 1) := by decide +kernel
theorem dX12_fits_40 : decode cX12_fits 40 = .ok (.invokevirtual 621, 3) := by decide +kernel
theorem dX12_fits_43 : decode cX12_fits 43 = .ok (.ifCond .eq 25, 3) := by decide +kernel
theorem dX12_fits_46 : decode cX12_fits 46 = .ok (.iload_n 1, 1) := by decide +kernel
theorem dX12_fits_47 : decode cX12_fits 47 = .ok (.iconst 0, 1) := by decide +kernel
theorem dX12_fits_48 : decode cX12_fits 48 = .ok (.iload_n 3, 1) := by decide +kernel
theorem dX12_fits_49 : decode cX12_fits 49 = .ok (.iconst 1, 1) := by decide +kernel
theorem dX12_fits_50 : decode cX12_fits 50 = .ok (.isub, 1) := by decide +kernel
theorem dX12_fits_51 : decode cX12_fits 51 = .ok (.invokestatic 352, 3) := by decide +kernel
theorem dX12_fits_54 : decode cX12_fits 54 = .ok (.ifCond .eq 12, 3) := by decide +kernel
theorem dX12_fits_57 : decode cX12_fits 57 = .ok (.aload_n 0, 1) := by decide +kernel
theorem dX12_fits_58 : decode cX12_fits 58 = .ok (.getfield 253, 3) := by decide +kernel
theorem dX12_fits_61 : decode cX12_fits 61 = .ok (.iload_n 1, 1) := by decide +kernel
theorem dX12_fits_62 : decode cX12_fits 62 = .ok (.iaload, 1) := by decide +kernel
theorem dX12_fits_63 : decode cX12_fits 63 = .ok (.goto 4, 3) := by decide +kernel
theorem dX12_fits_66 : decode cX12_fits 66 = .ok (.iconst (-1), 1) := by decide +kernel
theorem dX12_fits_67 : decode cX12_fits 67 = .ok (.ireturn, 1) := by decide +kernel
theorem dX12_fits_68 : decode cX12_fits 68 = .ok (.iinc 4 1, 3) := by decide +kernel
theorem dX12_fits_71 : decode cX12_fits 71 = .ok (.goto (-48), 3) := by decide +kernel
theorem dX12_fits_74 : decode cX12_fits 74 = .ok (.iload_n 2, 1) := by decide +kernel
theorem dX12_fits_75 : decode cX12_fits 75 = .ok (.bipush 10, 2) := by decide +kernel
theorem dX12_fits_77 : decode cX12_fits 77 = .ok (.imul, 1) := by decide +kernel
theorem dX12_fits_78 : decode cX12_fits 78 = .ok (.istore_n 2, 1) := by decide +kernel
theorem dX12_fits_79 : decode cX12_fits 79 = .ok (.iinc 3 1, 3) := by decide +kernel
theorem dX12_fits_82 : decode cX12_fits 82 = .ok (.goto (-67), 3) := by decide +kernel
theorem dX12_fits_85 : decode cX12_fits 85 = .ok (.iconst (-1), 1) := by decide +kernel
theorem dX12_fits_86 : decode cX12_fits 86 = .ok (.ireturn, 1) := by decide +kernel
theorem dX12_would_0 : decode cX12_would 0 = .ok (.aload_n 0, 1) := by decide +kernel
theorem dX12_would_1 : decode cX12_would 1 = .ok (.iload_n 1, 1) := by decide +kernel
theorem dX12_would_2 : decode cX12_would 2 = .ok (.invokevirtual 507, 3) := by decide +kernel
theorem dX12_would_5 : decode cX12_would 5 = .ok (.ifCond .eq 11, 3) := by decide +kernel
theorem dX12_would_8 : decode cX12_would 8 = .ok (.aload_n 0, 1) := by decide +kernel
theorem dX12_would_9 : decode cX12_would 9 = .ok (.iload_n 1, 1) := by decide +kernel
theorem dX12_would_10 : decode cX12_would 10 = .ok (.invokevirtual 624, 3) := by decide +kernel
theorem dX12_would_13 : decode cX12_would 13 = .ok (.goto 4, 3) := by decide +kernel
theorem dX12_would_16 : decode cX12_would 16 = .ok (.iconst (-1), 1) := by decide +kernel
theorem dX12_would_17 : decode cX12_would 17 = .ok (.ireturn, 1) := by decide +kernel
theorem dX12_unsay_0 : decode cX12_unsay 0 = .ok (.aload_n 0, 1) := by decide +kernel
theorem dX12_unsay_1 : decode cX12_unsay 1 = .ok (.getfield 241, 3) := by decide +kernel
theorem dX12_unsay_4 : decode cX12_unsay 4 = .ok (.ifCond .ne 9, 3) := by decide +kernel
theorem dX12_unsay_7 : decode cX12_unsay 7 = .ok (.aload_n 0, 1) := by decide +kernel
theorem dX12_unsay_8 : decode cX12_unsay 8 = .ok (.iconst 4, 1) := by decide +kernel
theorem dX12_unsay_9 : decode cX12_unsay 9 = .ok (.invokevirtual 271, 3) := by decide +kernel
theorem dX12_unsay_12 : decode cX12_unsay 12 = .ok (.ireturn, 1) := by decide +kernel
theorem dX12_unsay_13 : decode cX12_unsay 13 = .ok (.aload_n 0, 1) := by decide +kernel
theorem dX12_unsay_14 : decode cX12_unsay 14 = .ok (.dup, 1) := by decide +kernel
theorem dX12_unsay_15 : decode cX12_unsay 15 = .ok (.getfield 241, 3) := by decide +kernel
theorem dX12_unsay_18 : decode cX12_unsay 18 = .ok (.iconst 1, 1) := by decide +kernel
theorem dX12_unsay_19 : decode cX12_unsay 19 = .ok (.isub, 1) := by decide +kernel
theorem dX12_unsay_20 : decode cX12_unsay 20 = .ok (.putfield 241, 3) := by decide +kernel
theorem dX12_unsay_23 : decode cX12_unsay 23 = .ok (.aload_n 0, 1) := by decide +kernel
theorem dX12_unsay_24 : decode cX12_unsay 24 = .ok (.getfield 241, 3) := by decide +kernel
theorem dX12_unsay_27 : decode cX12_unsay 27 = .ok (.ireturn, 1) := by decide +kernel
theorem dX12_ways_0 : decode cX12_ways 0 = .ok (.iconst 0, 1) := by decide +kernel
theorem dX12_ways_1 : decode cX12_ways 1 = .ok (.istore_n 1, 1) := by decide +kernel
theorem dX12_ways_2 : decode cX12_ways 2 = .ok (.iload_n 1, 1) := by decide +kernel
theorem dX12_ways_3 : decode cX12_ways 3 = .ok (.bipush 64, 2) := by decide +kernel
theorem dX12_ways_5 : decode cX12_ways 5 = .ok (.if_icmp .ge 33, 3) := by decide +kernel
theorem dX12_ways_8 : decode cX12_ways 8 = .ok (.aload_n 0, 1) := by decide +kernel
theorem dX12_ways_9 : decode cX12_ways 9 = .ok (.getfield 259, 3) := by decide +kernel
theorem dX12_ways_12 : decode cX12_ways 12 = .ok (.iload_n 1, 1) := by decide +kernel
theorem dX12_ways_13 : decode cX12_ways 13 = .ok (.iload_n 1, 1) := by decide +kernel
theorem dX12_ways_14 : decode cX12_ways 14 = .ok (.bipush 8, 2) := by decide +kernel
theorem dX12_ways_16 : decode cX12_ways 16 = .ok (.idiv, 1) := by decide +kernel
theorem dX12_ways_17 : decode cX12_ways 17 = .ok (.iload_n 1, 1) := by decide +kernel
theorem dX12_ways_18 : decode cX12_ways 18 = .ok (.bipush 8, 2) := by decide +kernel
theorem dX12_ways_20 : decode cX12_ways 20 = .ok (.irem, 1) := by decide +kernel
theorem dX12_ways_21 : decode cX12_ways 21 = .ok (.if_icmp .ne 7, 3) := by decide +kernel
theorem dX12_ways_24 : decode cX12_ways 24 = .ok (.iconst 0, 1) := by decide +kernel
theorem dX12_ways_25 : decode cX12_ways 25 = .ok (.goto 6, 3) := by decide +kernel
theorem dX12_ways_28 : decode cX12_ways 28 = .ok (.ldc_w 627, 3) := by decide +kernel
theorem dX12_ways_31 : decode cX12_ways 31 = .ok (.iastore, 1) := by decide +kernel
theorem dX12_ways_32 : decode cX12_ways 32 = .ok (.iinc 1 1, 3) := by decide +kernel
theorem dX12_ways_35 : decode cX12_ways 35 = .ok (.goto (-33), 3) := by decide +kernel
theorem dX12_ways_38 : decode cX12_ways 38 = .ok (.iconst 0, 1) := by decide +kernel
theorem dX12_ways_39 : decode cX12_ways 39 = .ok (.istore_n 1, 1) := by decide +kernel
theorem dX12_ways_40 : decode cX12_ways 40 = .ok (.iload_n 1, 1) := by decide +kernel
theorem dX12_ways_41 : decode cX12_ways 41 = .ok (.aload_n 0, 1) := by decide +kernel
theorem dX12_ways_42 : decode cX12_ways 42 = .ok (.getfield 58, 3) := by decide +kernel
theorem dX12_ways_45 : decode cX12_ways 45 = .ok (.aload_n 0, 1) := by decide +kernel
theorem dX12_ways_46 : decode cX12_ways 46 = .ok (.getfield 48, 3) := by decide +kernel
theorem dX12_ways_49 : decode cX12_ways 49 = .ok (.iaload, 1) := by decide +kernel
theorem dX12_ways_50 : decode cX12_ways 50 = .ok (.if_icmp .ge 124, 3) := by decide +kernel
theorem dX12_ways_53 : decode cX12_ways 53 = .ok (.aload_n 0, 1) := by decide +kernel
theorem dX12_ways_54 : decode cX12_ways 54 = .ok (.getfield 70, 3) := by decide +kernel
theorem dX12_ways_57 : decode cX12_ways 57 = .ok (.aload_n 0, 1) := by decide +kernel
theorem dX12_ways_58 : decode cX12_ways 58 = .ok (.iload_n 1, 1) := by decide +kernel
theorem dX12_ways_59 : decode cX12_ways 59 = .ok (.invokevirtual 487, 3) := by decide +kernel
theorem dX12_ways_62 : decode cX12_ways 62 = .ok (.baload, 1) := by decide +kernel
theorem dX12_ways_63 : decode cX12_ways 63 = .ok (.ifCond .ne 105, 3) := by decide +kernel
theorem dX12_ways_66 : decode cX12_ways 66 = .ok (.aload_n 0, 1) := by decide +kernel
theorem dX12_ways_67 : decode cX12_ways 67 = .ok (.iload_n 1, 1) := by decide +kernel
theorem dX12_ways_68 : decode cX12_ways 68 = .ok (.invokevirtual 493, 3) := by decide +kernel
theorem dX12_ways_71 : decode cX12_ways 71 = .ok (.ifCond .eq 6, 3) := by decide +kernel
theorem dX12_ways_74 : decode cX12_ways 74 = .ok (.goto 94, 3) := by decide +kernel
theorem dX12_ways_77 : decode cX12_ways 77 = .ok (.aload_n 0, 1) := by decide +kernel
theorem dX12_ways_78 : decode cX12_ways 78 = .ok (.getfield 64, 3) := by decide +kernel
theorem dX12_ways_81 : decode cX12_ways 81 = .ok (.aload_n 0, 1) := by decide +kernel
theorem dX12_ways_82 : decode cX12_ways 82 = .ok (.iload_n 1, 1) := by decide +kernel
theorem dX12_ways_83 : decode cX12_ways 83 = .ok (.invokevirtual 487, 3) := by decide +kernel
theorem dX12_ways_86 : decode cX12_ways 86 = .ok (.iaload, 1) := by decide +kernel
theorem dX12_ways_87 : decode cX12_ways 87 = .ok (.istore_n 2, 1) := by decide +kernel
theorem dX12_ways_88 : decode cX12_ways 88 = .ok (.aload_n 0, 1) := by decide +kernel
theorem dX12_ways_89 : decode cX12_ways 89 = .ok (.getfield 67, 3) := by decide +kernel
theorem dX12_ways_92 : decode cX12_ways 92 = .ok (.aload_n 0, 1) := by decide +kernel
theorem dX12_ways_93 : decode cX12_ways 93 = .ok (.iload_n 1, 1) := by decide +kernel
theorem dX12_ways_94 : decode cX12_ways 94 = .ok (.invokevirtual 487, 3) := by decide +kernel
theorem dX12_ways_97 : decode cX12_ways 97 = .ok (.iaload, 1) := by decide +kernel
theorem dX12_ways_98 : decode cX12_ways 98 = .ok (.istore_n 3, 1) := by decide +kernel
theorem dX12_ways_99 : decode cX12_ways 99 = .ok (.aload_n 0, 1) := by decide +kernel
theorem dX12_ways_100 : decode cX12_ways 100 = .ok (.getfield 74, 3) := by decide +kernel
theorem dX12_ways_103 : decode cX12_ways 103 = .ok (.aload_n 0, 1) := by decide +kernel
theorem dX12_ways_104 : decode cX12_ways 104 = .ok (.iload_n 1, 1) := by decide +kernel
theorem dX12_ways_105 : decode cX12_ways 105 = .ok (.invokevirtual 487, 3) := by decide +kernel
theorem dX12_ways_108 : decode cX12_ways 108 = .ok (.iaload, 1) := by decide +kernel
theorem dX12_ways_109 : decode cX12_ways 109 = .ok (.aload_n 0, 1) := by decide +kernel
theorem dX12_ways_110 : decode cX12_ways 110 = .ok (.getfield 259, 3) := by decide +kernel
theorem dX12_ways_113 : decode cX12_ways 113 = .ok (.bipush 8, 2) := by decide +kernel
theorem dX12_ways_115 : decode cX12_ways 115 = .ok (.iload_n 2, 1) := by decide +kernel
theorem dX12_ways_116 : decode cX12_ways 116 = .ok (.imul, 1) := by decide +kernel
theorem dX12_ways_117 : decode cX12_ways 117 = .ok (.iload_n 3, 1) := by decide +kernel
theorem dX12_ways_118 : decode cX12_ways 118 = .ok (.iadd, 1) := by decide +kernel
theorem dX12_ways_119 : decode cX12_ways 119 = .ok (.iaload, 1) := by decide +kernel
theorem dX12_ways_120 : decode cX12_ways 120 = .ok (.if_icmp .lt 6, 3) := by decide +kernel
theorem dX12_ways_123 : decode cX12_ways 123 = .ok (.goto 45, 3) := by decide +kernel
theorem dX12_ways_126 : decode cX12_ways 126 = .ok (.aload_n 0, 1) := by decide +kernel
theorem dX12_ways_127 : decode cX12_ways 127 = .ok (.getfield 259, 3) := by decide +kernel
theorem dX12_ways_130 : decode cX12_ways 130 = .ok (.bipush 8, 2) := by decide +kernel
theorem dX12_ways_132 : decode cX12_ways 132 = .ok (.iload_n 2, 1) := by decide +kernel
theorem dX12_ways_133 : decode cX12_ways 133 = .ok (.imul, 1) := by decide +kernel
theorem dX12_ways_134 : decode cX12_ways 134 = .ok (.iload_n 3, 1) := by decide +kernel
theorem dX12_ways_135 : decode cX12_ways 135 = .ok (.iadd, 1) := by decide +kernel
theorem dX12_ways_136 : decode cX12_ways 136 = .ok (.aload_n 0, 1) := by decide +kernel
theorem dX12_ways_137 : decode cX12_ways 137 = .ok (.getfield 74, 3) := by decide +kernel
theorem dX12_ways_140 : decode cX12_ways 140 = .ok (.aload_n 0, 1) := by decide +kernel
theorem dX12_ways_141 : decode cX12_ways 141 = .ok (.iload_n 1, 1) := by decide +kernel
theorem dX12_ways_142 : decode cX12_ways 142 = .ok (.invokevirtual 487, 3) := by decide +kernel
theorem dX12_ways_145 : decode cX12_ways 145 = .ok (.iaload, 1) := by decide +kernel
theorem dX12_ways_146 : decode cX12_ways 146 = .ok (.iastore, 1) := by decide +kernel
theorem dX12_ways_147 : decode cX12_ways 147 = .ok (.aload_n 0, 1) := by decide +kernel
theorem dX12_ways_148 : decode cX12_ways 148 = .ok (.getfield 259, 3) := by decide +kernel
theorem dX12_ways_151 : decode cX12_ways 151 = .ok (.bipush 8, 2) := by decide +kernel
theorem dX12_ways_153 : decode cX12_ways 153 = .ok (.iload_n 3, 1) := by decide +kernel
theorem dX12_ways_154 : decode cX12_ways 154 = .ok (.imul, 1) := by decide +kernel
theorem dX12_ways_155 : decode cX12_ways 155 = .ok (.iload_n 2, 1) := by decide +kernel
theorem dX12_ways_156 : decode cX12_ways 156 = .ok (.iadd, 1) := by decide +kernel
theorem dX12_ways_157 : decode cX12_ways 157 = .ok (.aload_n 0, 1) := by decide +kernel
theorem dX12_ways_158 : decode cX12_ways 158 = .ok (.getfield 74, 3) := by decide +kernel
theorem dX12_ways_161 : decode cX12_ways 161 = .ok (.aload_n 0, 1) := by decide +kernel
theorem dX12_ways_162 : decode cX12_ways 162 = .ok (.iload_n 1, 1) := by decide +kernel
theorem dX12_ways_163 : decode cX12_ways 163 = .ok (.invokevirtual 487, 3) := by decide +kernel
theorem dX12_ways_166 : decode cX12_ways 166 = .ok (.iaload, 1) := by decide +kernel
theorem dX12_ways_167 : decode cX12_ways 167 = .ok (.iastore, 1) := by decide +kernel
theorem dX12_ways_168 : decode cX12_ways 168 = .ok (.iinc 1 1, 3) := by decide +kernel
theorem dX12_ways_171 : decode cX12_ways 171 = .ok (.goto (-131), 3) := by decide +kernel
theorem dX12_ways_174 : decode cX12_ways 174 = .ok (.iconst 0, 1) := by decide +kernel
theorem dX12_ways_175 : decode cX12_ways 175 = .ok (.istore_n 1, 1) := by decide +kernel
theorem dX12_ways_176 : decode cX12_ways 176 = .ok (.iload_n 1, 1) := by decide +kernel
theorem dX12_ways_177 : decode cX12_ways 177 = .ok (.bipush 8, 2) := by decide +kernel
theorem dX12_ways_179 : decode cX12_ways 179 = .ok (.if_icmp .ge 79, 3) := by decide +kernel
theorem dX12_ways_182 : decode cX12_ways 182 = .ok (.iconst 0, 1) := by decide +kernel
theorem dX12_ways_183 : decode cX12_ways 183 = .ok (.istore_n 2, 1) := by decide +kernel
theorem dX12_ways_184 : decode cX12_ways 184 = .ok (.iload_n 2, 1) := by decide +kernel
theorem dX12_ways_185 : decode cX12_ways 185 = .ok (.bipush 64, 2) := by decide +kernel
theorem dX12_ways_187 : decode cX12_ways 187 = .ok (.if_icmp .ge 65, 3) := by decide +kernel
theorem dX12_ways_190 : decode cX12_ways 190 = .ok (.aload_n 0, 1) := by decide +kernel
theorem dX12_ways_191 : decode cX12_ways 191 = .ok (.getfield 259, 3) := by decide +kernel
theorem dX12_ways_194 : decode cX12_ways 194 = .ok (.iload_n 2, 1) := by decide +kernel
theorem dX12_ways_195 : decode cX12_ways 195 = .ok (.bipush 8, 2) := by decide +kernel
theorem dX12_ways_197 : decode cX12_ways 197 = .ok (.idiv, 1) := by decide +kernel
theorem dX12_ways_198 : decode cX12_ways 198 = .ok (.bipush 8, 2) := by decide +kernel
theorem dX12_ways_200 : decode cX12_ways 200 = .ok (.imul, 1) := by decide +kernel
theorem dX12_ways_201 : decode cX12_ways 201 = .ok (.iload_n 1, 1) := by decide +kernel
theorem dX12_ways_202 : decode cX12_ways 202 = .ok (.iadd, 1) := by decide +kernel
theorem dX12_ways_203 : decode cX12_ways 203 = .ok (.iaload, 1) := by decide +kernel
theorem dX12_ways_204 : decode cX12_ways 204 = .ok (.aload_n 0, 1) := by decide +kernel
theorem dX12_ways_205 : decode cX12_ways 205 = .ok (.getfield 259, 3) := by decide +kernel
theorem dX12_ways_208 : decode cX12_ways 208 = .ok (.bipush 8, 2) := by decide +kernel
theorem dX12_ways_210 : decode cX12_ways 210 = .ok (.iload_n 1, 1) := by decide +kernel
theorem dX12_ways_211 : decode cX12_ways 211 = .ok (.imul, 1) := by decide +kernel
theorem dX12_ways_212 : decode cX12_ways 212 = .ok (.iload_n 2, 1) := by decide +kernel
theorem dX12_ways_213 : decode cX12_ways 213 = .ok (.bipush 8, 2) := by decide +kernel
theorem dX12_ways_215 : decode cX12_ways 215 = .ok (.irem, 1) := by decide +kernel
theorem dX12_ways_216 : decode cX12_ways 216 = .ok (.iadd, 1) := by decide +kernel
theorem dX12_ways_217 : decode cX12_ways 217 = .ok (.iaload, 1) := by decide +kernel
theorem dX12_ways_218 : decode cX12_ways 218 = .ok (.iadd, 1) := by decide +kernel
theorem dX12_ways_219 : decode cX12_ways 219 = .ok (.istore_n 3, 1) := by decide +kernel
theorem dX12_ways_220 : decode cX12_ways 220 = .ok (.aload_n 0, 1) := by decide +kernel
theorem dX12_ways_221 : decode cX12_ways 221 = .ok (.getfield 259, 3) := by decide +kernel
theorem dX12_ways_224 : decode cX12_ways 224 = .ok (.iload_n 2, 1) := by decide +kernel
theorem dX12_ways_225 : decode cX12_ways 225 = .ok (.iload_n 3, 1) := by decide +kernel
theorem dX12_ways_226 : decode cX12_ways 226 = .ok (.aload_n 0, 1) := by decide +kernel
theorem dX12_ways_227 : decode cX12_ways 227 = .ok (.getfield 259, 3) := by decide +kernel
theorem dX12_ways_230 : decode cX12_ways 230 = .ok (.iload_n 2, 1) := by decide +kernel
theorem dX12_ways_231 : decode cX12_ways 231 = .ok (.iaload, 1) := by decide +kernel
theorem dX12_ways_232 : decode cX12_ways 232 = .ok (.if_icmp .ge 7, 3) := by decide +kernel
theorem dX12_ways_235 : decode cX12_ways 235 = .ok (.iload_n 3, 1) := by decide +kernel
theorem dX12_ways_236 : decode cX12_ways 236 = .ok (.goto 9, 3) := by decide +kernel
theorem dX12_ways_239 : decode cX12_ways 239 = .ok (.aload_n 0, 1) := by decide +kernel
theorem dX12_ways_240 : decode cX12_ways 240 = .ok (.getfield 259, 3) := by decide +kernel
theorem dX12_ways_243 : decode cX12_ways 243 = .ok (.iload_n 2, 1) := by decide +kernel
theorem dX12_ways_244 : decode cX12_ways 244 = .ok (.iaload, 1) := by decide +kernel
theorem dX12_ways_245 : decode cX12_ways 245 = .ok (.iastore, 1) := by decide +kernel
theorem dX12_ways_246 : decode cX12_ways 246 = .ok (.iinc 2 1, 3) := by decide +kernel
theorem dX12_ways_249 : decode cX12_ways 249 = .ok (.goto (-65), 3) := by decide +kernel
theorem dX12_ways_252 : decode cX12_ways 252 = .ok (.iinc 1 1, 3) := by decide +kernel
theorem dX12_ways_255 : decode cX12_ways 255 = .ok (.goto (-79), 3) := by decide +kernel
theorem dX12_ways_258 : decode cX12_ways 258 = .ok (.return_, 1) := by decide +kernel
theorem dX12_round_0 : decode cX12_round 0 = .ok (.aload_n 0, 1) := by decide +kernel
theorem dX12_round_1 : decode cX12_round 1 = .ok (.iload_n 1, 1) := by decide +kernel
theorem dX12_round_2 : decode cX12_round 2 = .ok (.invokevirtual 539, 3) := by decide +kernel
theorem dX12_round_5 : decode cX12_round 5 = .ok (.ifCond .ne 5, 3) := by decide +kernel
theorem dX12_round_8 : decode cX12_round 8 = .ok (.iconst (-1), 1) := by decide +kernel
theorem dX12_round_9 : decode cX12_round 9 = .ok (.ireturn, 1) := by decide +kernel
theorem dX12_round_10 : decode cX12_round 10 = .ok (.aload_n 0, 1) := by decide +kernel
theorem dX12_round_11 : decode cX12_round 11 = .ok (.invokevirtual 628, 3) := by decide +kernel
theorem dX12_round_14 : decode cX12_round 14 = .ok (.aload_n 0, 1) := by decide +kernel
theorem dX12_round_15 : decode cX12_round 15 = .ok (.iload_n 1, 1) := by decide +kernel
theorem dX12_round_16 : decode cX12_round 16 = .ok (.invokevirtual 520, 3) := by decide +kernel
theorem dX12_round_19 : decode cX12_round 19 = .ok (.istore_n 3, 1) := by decide +kernel
theorem dX12_round_20 : decode cX12_round 20 = .ok (.iload_n 2, 1) := by decide +kernel
theorem dX12_round_21 : decode cX12_round 21 = .ok (.iconst 1, 1) := by decide +kernel
theorem dX12_round_22 : decode cX12_round 22 = .ok (.aload_n 0, 1) := by decide +kernel
theorem dX12_round_23 : decode cX12_round 23 = .ok (.getfield 51, 3) := by decide +kernel
theorem dX12_round_26 : decode cX12_round 26 = .ok (.aload_n 0, 1) := by decide +kernel
theorem dX12_round_27 : decode cX12_round 27 = .ok (.getfield 48, 3) := by decide +kernel
theorem dX12_round_30 : decode cX12_round 30 = .ok (.iaload, 1) := by decide +kernel
theorem dX12_round_31 : decode cX12_round 31 = .ok (.ishl, 1) := by decide +kernel
theorem dX12_round_32 : decode cX12_round 32 = .ok (.iconst 1, 1) := by decide +kernel
theorem dX12_round_33 : decode cX12_round 33 = .ok (.isub, 1) := by decide +kernel
theorem dX12_round_34 : decode cX12_round 34 = .ok (.iand, 1) := by decide +kernel
theorem dX12_round_35 : decode cX12_round 35 = .ok (.istore 4, 2) := by decide +kernel
theorem dX12_round_37 : decode cX12_round 37 = .ok (.iconst 0, 1) := by decide +kernel
theorem dX12_round_38 : decode cX12_round 38 = .ok (.istore 5, 2) := by decide +kernel
theorem dX12_round_40 : decode cX12_round 40 = .ok (.iload 5, 2) := by decide +kernel
theorem dX12_round_42 : decode cX12_round 42 = .ok (.sipush 2048, 3) := by decide +kernel
theorem dX12_round_45 : decode cX12_round 45 = .ok (.if_icmp .ge 19, 3) := by decide +kernel
theorem dX12_round_48 : decode cX12_round 48 = .ok (.aload_n 0, 1) := by decide +kernel
theorem dX12_round_49 : decode cX12_round 49 = .ok (.getfield 262, 3) := by decide +kernel
theorem dX12_round_52 : decode cX12_round 52 = .ok (.iload 5, 2) := by decide +kernel
theorem dX12_round_54 : decode cX12_round 54 = .ok (.ldc_w 627, 3) := by decide +kernel
theorem dX12_round_57 : decode cX12_round 57 = .ok (.iastore, 1) := by decide +kernel
theorem dX12_round_58 : decode cX12_round 58 = .ok (.iinc 5 1, 3) := by decide +kernel
theorem dX12_round_61 : decode cX12_round 61 = .ok (.goto (-21), 3) := by decide +kernel
theorem dX12_round_64 : decode cX12_round 64 = .ok (.aload_n 0, 1) := by decide +kernel
theorem dX12_round_65 : decode cX12_round 65 = .ok (.getfield 262, 3) := by decide +kernel
theorem dX12_round_68 : decode cX12_round 68 = .ok (.bipush 8, 2) := by decide +kernel
theorem dX12_round_70 : decode cX12_round 70 = .ok (.iconst 1, 1) := by decide +kernel
theorem dX12_round_71 : decode cX12_round 71 = .ok (.iload_n 3, 1) := by decide +kernel
theorem dX12_round_72 : decode cX12_round 72 = .ok (.ishl, 1) := by decide +kernel
theorem dX12_round_73 : decode cX12_round 73 = .ok (.imul, 1) := by decide +kernel
theorem dX12_round_74 : decode cX12_round 74 = .ok (.iload_n 3, 1) := by decide +kernel
theorem dX12_round_75 : decode cX12_round 75 = .ok (.iadd, 1) := by decide +kernel
theorem dX12_round_76 : decode cX12_round 76 = .ok (.iconst 0, 1) := by decide +kernel
theorem dX12_round_77 : decode cX12_round 77 = .ok (.iastore, 1) := by decide +kernel
theorem dX12_round_78 : decode cX12_round 78 = .ok (.ldc_w 627, 3) := by decide +kernel
theorem dX12_round_81 : decode cX12_round 81 = .ok (.istore 5, 2) := by decide +kernel
theorem dX12_round_83 : decode cX12_round 83 = .ok (.iconst 0, 1) := by decide +kernel
theorem dX12_round_84 : decode cX12_round 84 = .ok (.istore 6, 2) := by decide +kernel
theorem dX12_round_86 : decode cX12_round 86 = .ok (.iload 6, 2) := by decide +kernel
theorem dX12_round_88 : decode cX12_round 88 = .ok (.sipush 256, 3) := by decide +kernel
theorem dX12_round_91 : decode cX12_round 91 = .ok (.if_icmp .ge 188, 3) := by decide +kernel
theorem dX12_round_94 : decode cX12_round 94 = .ok (.iconst 0, 1) := by decide +kernel
theorem dX12_round_95 : decode cX12_round 95 = .ok (.istore 7, 2) := by decide +kernel
theorem dX12_round_97 : decode cX12_round 97 = .ok (.iload 7, 2) := by decide +kernel
theorem dX12_round_99 : decode cX12_round 99 = .ok (.bipush 8, 2) := by decide +kernel
theorem dX12_round_101 : decode cX12_round 101 = .ok (.if_icmp .ge 172, 3) := by decide +kernel
theorem dX12_round_104 : decode cX12_round 104 = .ok (.aload_n 0, 1) := by decide +kernel
theorem dX12_round_105 : decode cX12_round 105 = .ok (.getfield 262, 3) := by decide +kernel
theorem dX12_round_108 : decode cX12_round 108 = .ok (.bipush 8, 2) := by decide +kernel
theorem dX12_round_110 : decode cX12_round 110 = .ok (.iload 6, 2) := by decide +kernel
theorem dX12_round_112 : decode cX12_round 112 = .ok (.imul, 1) := by decide +kernel
theorem dX12_round_113 : decode cX12_round 113 = .ok (.iload 7, 2) := by decide +kernel
theorem dX12_round_115 : decode cX12_round 115 = .ok (.iadd, 1) := by decide +kernel
theorem dX12_round_116 : decode cX12_round 116 = .ok (.iaload, 1) := by decide +kernel
theorem dX12_round_117 : decode cX12_round 117 = .ok (.istore 8, 2) := by decide +kernel
theorem dX12_round_119 : decode cX12_round 119 = .ok (.iload 8, 2) := by decide +kernel
theorem dX12_round_121 : decode cX12_round 121 = .ok (.ldc_w 627, 3) := by decide +kernel
theorem dX12_round_124 : decode cX12_round 124 = .ok (.if_icmp .lt 6, 3) := by decide +kernel
theorem dX12_round_127 : decode cX12_round 127 = .ok (.goto 140, 3) := by decide +kernel
theorem dX12_round_130 : decode cX12_round 130 = .ok (.iload 6, 2) := by decide +kernel
theorem dX12_round_132 : decode cX12_round 132 = .ok (.iload 4, 2) := by decide +kernel
theorem dX12_round_134 : decode cX12_round 134 = .ok (.iand, 1) := by decide +kernel
theorem dX12_round_135 : decode cX12_round 135 = .ok (.iload 4, 2) := by decide +kernel
theorem dX12_round_137 : decode cX12_round 137 = .ok (.if_icmp .ne 40, 3) := by decide +kernel
theorem dX12_round_140 : decode cX12_round 140 = .ok (.iload 8, 2) := by decide +kernel
theorem dX12_round_142 : decode cX12_round 142 = .ok (.aload_n 0, 1) := by decide +kernel
theorem dX12_round_143 : decode cX12_round 143 = .ok (.getfield 259, 3) := by decide +kernel
theorem dX12_round_146 : decode cX12_round 146 = .ok (.bipush 8, 2) := by decide +kernel
theorem dX12_round_148 : decode cX12_round 148 = .ok (.iload 7, 2) := by decide +kernel
theorem dX12_round_150 : decode cX12_round 150 = .ok (.imul, 1) := by decide +kernel
theorem dX12_round_151 : decode cX12_round 151 = .ok (.iload_n 3, 1) := by decide +kernel
theorem dX12_round_152 : decode cX12_round 152 = .ok (.iadd, 1) := by decide +kernel
theorem dX12_round_153 : decode cX12_round 153 = .ok (.iaload, 1) := by decide +kernel
theorem dX12_round_154 : decode cX12_round 154 = .ok (.iadd, 1) := by decide +kernel
theorem dX12_round_155 : decode cX12_round 155 = .ok (.iload 5, 2) := by decide +kernel
theorem dX12_round_157 : decode cX12_round 157 = .ok (.if_icmp .ge 20, 3) := by decide +kernel
theorem dX12_round_160 : decode cX12_round 160 = .ok (.iload 8, 2) := by decide +kernel
theorem dX12_round_162 : decode cX12_round 162 = .ok (.aload_n 0, 1) := by decide +kernel
theorem dX12_round_163 : decode cX12_round 163 = .ok (.getfield 259, 3) := by decide +kernel
theorem dX12_round_166 : decode cX12_round 166 = .ok (.bipush 8, 2) := by decide +kernel
theorem dX12_round_168 : decode cX12_round 168 = .ok (.iload 7, 2) := by decide +kernel
theorem dX12_round_170 : decode cX12_round 170 = .ok (.imul, 1) := by decide +kernel
theorem dX12_round_171 : decode cX12_round 171 = .ok (.iload_n 3, 1) := by decide +kernel
theorem dX12_round_172 : decode cX12_round 172 = .ok (.iadd, 1) := by decide +kernel
theorem dX12_round_173 : decode cX12_round 173 = .ok (.iaload, 1) := by decide +kernel
theorem dX12_round_174 : decode cX12_round 174 = .ok (.iadd, 1) := by decide +kernel
theorem dX12_round_175 : decode cX12_round 175 = .ok (.istore 5, 2) := by decide +kernel
theorem dX12_round_177 : decode cX12_round 177 = .ok (.iconst 0, 1) := by decide +kernel
theorem dX12_round_178 : decode cX12_round 178 = .ok (.istore 9, 2) := by decide +kernel
theorem dX12_round_180 : decode cX12_round 180 = .ok (.iload 9, 2) := by decide +kernel
theorem dX12_round_182 : decode cX12_round 182 = .ok (.bipush 8, 2) := by decide +kernel
theorem dX12_round_184 : decode cX12_round 184 = .ok (.if_icmp .ge 83, 3) := by decide +kernel
theorem dX12_round_187 : decode cX12_round 187 = .ok (.bipush 8, 2) := by decide +kernel
theorem dX12_round_189 : decode cX12_round 189 = .ok (.iload 6, 2) := by decide +kernel
theorem dX12_round_191 : decode cX12_round 191 = .ok (.iconst 1, 1) := by decide +kernel
theorem dX12_round_192 : decode cX12_round 192 = .ok (.iload 9, 2) := by decide +kernel
theorem dX12_round_194 : decode cX12_round 194 = .ok (.ishl, 1) := by decide +kernel
theorem dX12_round_195 : decode cX12_round 195 = .ok (.ior, 1) := by decide +kernel
theorem dX12_round_196 : decode cX12_round 196 = .ok (.imul, 1) := by decide +kernel
theorem dX12_round_197 : decode cX12_round 197 = .ok (.iload 9, 2) := by decide +kernel
theorem dX12_round_199 : decode cX12_round 199 = .ok (.iadd, 1) := by decide +kernel
theorem dX12_round_200 : decode cX12_round 200 = .ok (.istore 10, 2) := by decide +kernel
theorem dX12_round_202 : decode cX12_round 202 = .ok (.iload 6, 2) := by decide +kernel
theorem dX12_round_204 : decode cX12_round 204 = .ok (.iload 9, 2) := by decide +kernel
theorem dX12_round_206 : decode cX12_round 206 = .ok (.ishr, 1) := by decide +kernel
theorem dX12_round_207 : decode cX12_round 207 = .ok (.iconst 1, 1) := by decide +kernel
theorem dX12_round_208 : decode cX12_round 208 = .ok (.iand, 1) := by decide +kernel
theorem dX12_round_209 : decode cX12_round 209 = .ok (.ifCond .ne 52, 3) := by decide +kernel
theorem dX12_round_212 : decode cX12_round 212 = .ok (.iload 8, 2) := by decide +kernel
theorem dX12_round_214 : decode cX12_round 214 = .ok (.aload_n 0, 1) := by decide +kernel
theorem dX12_round_215 : decode cX12_round 215 = .ok (.getfield 259, 3) := by decide +kernel
theorem dX12_round_218 : decode cX12_round 218 = .ok (.bipush 8, 2) := by decide +kernel
theorem dX12_round_220 : decode cX12_round 220 = .ok (.iload 7, 2) := by decide +kernel
theorem dX12_round_222 : decode cX12_round 222 = .ok (.imul, 1) := by decide +kernel
theorem dX12_round_223 : decode cX12_round 223 = .ok (.iload 9, 2) := by decide +kernel
theorem dX12_round_225 : decode cX12_round 225 = .ok (.iadd, 1) := by decide +kernel
theorem dX12_round_226 : decode cX12_round 226 = .ok (.iaload, 1) := by decide +kernel
theorem dX12_round_227 : decode cX12_round 227 = .ok (.iadd, 1) := by decide +kernel
theorem dX12_round_228 : decode cX12_round 228 = .ok (.aload_n 0, 1) := by decide +kernel
theorem dX12_round_229 : decode cX12_round 229 = .ok (.getfield 262, 3) := by decide +kernel
theorem dX12_round_232 : decode cX12_round 232 = .ok (.iload 10, 2) := by decide +kernel
theorem dX12_round_234 : decode cX12_round 234 = .ok (.iaload, 1) := by decide +kernel
theorem dX12_round_235 : decode cX12_round 235 = .ok (.if_icmp .ge 26, 3) := by decide +kernel
theorem dX12_round_238 : decode cX12_round 238 = .ok (.aload_n 0, 1) := by decide +kernel
theorem dX12_round_239 : decode cX12_round 239 = .ok (.getfield 262, 3) := by decide +kernel
theorem dX12_round_242 : decode cX12_round 242 = .ok (.iload 10, 2) := by decide +kernel
theorem dX12_round_244 : decode cX12_round 244 = .ok (.iload 8, 2) := by decide +kernel
theorem dX12_round_246 : decode cX12_round 246 = .ok (.aload_n 0, 1) := by decide +kernel
theorem dX12_round_247 : decode cX12_round 247 = .ok (.getfield 259, 3) := by decide +kernel
theorem dX12_round_250 : decode cX12_round 250 = .ok (.bipush 8, 2) := by decide +kernel
theorem dX12_round_252 : decode cX12_round 252 = .ok (.iload 7, 2) := by decide +kernel
theorem dX12_round_254 : decode cX12_round 254 = .ok (.imul, 1) := by decide +kernel
theorem dX12_round_255 : decode cX12_round 255 = .ok (.iload 9, 2) := by decide +kernel
theorem dX12_round_257 : decode cX12_round 257 = .ok (.iadd, 1) := by decide +kernel
theorem dX12_round_258 : decode cX12_round 258 = .ok (.iaload, 1) := by decide +kernel
theorem dX12_round_259 : decode cX12_round 259 = .ok (.iadd, 1) := by decide +kernel
theorem dX12_round_260 : decode cX12_round 260 = .ok (.iastore, 1) := by decide +kernel
theorem dX12_round_261 : decode cX12_round 261 = .ok (.iinc 9 1, 3) := by decide +kernel
theorem dX12_round_264 : decode cX12_round 264 = .ok (.goto (-84), 3) := by decide +kernel
theorem dX12_round_267 : decode cX12_round 267 = .ok (.iinc 7 1, 3) := by decide +kernel
theorem dX12_round_270 : decode cX12_round 270 = .ok (.goto (-173), 3) := by decide +kernel
theorem dX12_round_273 : decode cX12_round 273 = .ok (.iinc 6 1, 3) := by decide +kernel
theorem dX12_round_276 : decode cX12_round 276 = .ok (.goto (-190), 3) := by decide +kernel
theorem dX12_round_279 : decode cX12_round 279 = .ok (.iload 5, 2) := by decide +kernel
theorem dX12_round_281 : decode cX12_round 281 = .ok (.ldc_w 627, 3) := by decide +kernel
theorem dX12_round_284 : decode cX12_round 284 = .ok (.if_icmp .lt 7, 3) := by decide +kernel
theorem dX12_round_287 : decode cX12_round 287 = .ok (.iconst (-1), 1) := by decide +kernel
theorem dX12_round_288 : decode cX12_round 288 = .ok (.goto 5, 3) := by decide +kernel
theorem dX12_round_291 : decode cX12_round 291 = .ok (.iload 5, 2) := by decide +kernel
theorem dX12_round_293 : decode cX12_round 293 = .ok (.ireturn, 1) := by decide +kernel
