theorem dX12_fits8_0 : decode cX12_fits8 0 = .ok (.iconst 0, 1) := by decide +kernel
theorem dX12_fits8_1 : decode cX12_fits8 1 = .ok (.istore_n 2, 1) := by decide +kernel
theorem dX12_fits8_2 : decode cX12_fits8 2 = .ok (.aload_n 0, 1) := by decide +kernel
theorem dX12_fits8_3 : decode cX12_fits8 3 = .ok (.getfield 238, 3) := by decide +kernel
theorem dX12_fits8_6 : decode cX12_fits8 6 = .ok (.iconst 0, 1) := by decide +kernel
theorem dX12_fits8_7 : decode cX12_fits8 7 = .ok (.iconst (-1), 1) := by decide +kernel
theorem dX12_fits8_8 : decode cX12_fits8 8 = .ok (.iastore, 1) := by decide +kernel
theorem dX12_fits8_9 : decode cX12_fits8 9 = .ok (.iload_n 2, 1) := by decide +kernel
theorem dX12_fits8_10 : decode cX12_fits8 10 = .ok (.ifCond .lt 86, 3) := by decide +kernel
theorem dX12_fits8_13 : decode cX12_fits8 13 = .ok (.iload_n 2, 1) := by decide +kernel
theorem dX12_fits8_14 : decode cX12_fits8 14 = .ok (.aload_n 0, 1) := by decide +kernel
theorem dX12_fits8_15 : decode cX12_fits8 15 = .ok (.getfield 122, 3) := by decide +kernel
theorem dX12_fits8_18 : decode cX12_fits8 18 = .ok (.aload_n 0, 1) := by decide +kernel
theorem dX12_fits8_19 : decode cX12_fits8 19 = .ok (.getfield 48, 3) := by decide +kernel
theorem dX12_fits8_22 : decode cX12_fits8 22 = .ok (.iaload, 1) := by decide +kernel
theorem dX12_fits8_23 : decode cX12_fits8 23 = .ok (.if_icmp .ge 73, 3) := by decide +kernel
theorem dX12_fits8_26 : decode cX12_fits8 26 = .ok (.aload_n 0, 1) := by decide +kernel
theorem dX12_fits8_27 : decode cX12_fits8 27 = .ok (.getfield 238, 3) := by decide +kernel
theorem dX12_fits8_30 : decode cX12_fits8 30 = .ok (.iload_n 2, 1) := by decide +kernel
theorem dX12_fits8_31 : decode cX12_fits8 31 = .ok (.dup2, 1) := by decide +kernel
theorem dX12_fits8_32 : decode cX12_fits8 32 = .ok (.iaload, 1) := by decide +kernel
theorem dX12_fits8_33 : decode cX12_fits8 33 = .ok (.iconst 1, 1) := by decide +kernel
theorem dX12_fits8_34 : decode cX12_fits8 34 = .ok (.iadd, 1) := by decide +kernel
theorem dX12_fits8_35 : decode cX12_fits8 35 = .ok (.iastore, 1) := by decide +kernel
theorem dX12_fits8_36 : decode cX12_fits8 36 = .ok (.aload_n 0, 1) := by decide +kernel
theorem dX12_fits8_37 : decode cX12_fits8 37 = .ok (.getfield 238, 3) := by decide +kernel
theorem dX12_fits8_40 : decode cX12_fits8 40 = .ok (.iload_n 2, 1) := by decide +kernel
theorem dX12_fits8_41 : decode cX12_fits8 41 = .ok (.iaload, 1) := by decide +kernel
theorem dX12_fits8_42 : decode cX12_fits8 42 = .ok (.iload_n 1, 1) := by decide +kernel
theorem dX12_fits8_43 : decode cX12_fits8 43 = .ok (.if_icmp .ge 24, 3) := by decide +kernel
theorem dX12_fits8_46 : decode cX12_fits8 46 = .ok (.aload_n 0, 1) := by decide +kernel
theorem dX12_fits8_47 : decode cX12_fits8 47 = .ok (.iload_n 2, 1) := by decide +kernel
theorem dX12_fits8_48 : decode cX12_fits8 48 = .ok (.invokevirtual 609, 3) := by decide +kernel
theorem dX12_fits8_51 : decode cX12_fits8 51 = .ok (.ifCond .ne 16, 3) := by decide +kernel
theorem dX12_fits8_54 : decode cX12_fits8 54 = .ok (.aload_n 0, 1) := by decide +kernel
theorem dX12_fits8_55 : decode cX12_fits8 55 = .ok (.getfield 238, 3) := by decide +kernel
theorem dX12_fits8_58 : decode cX12_fits8 58 = .ok (.iload_n 2, 1) := by decide +kernel
theorem dX12_fits8_59 : decode cX12_fits8 59 = .ok (.dup2, 1) := by decide +kernel
theorem dX12_fits8_60 : decode cX12_fits8 60 = .ok (.iaload, 1) := by decide +kernel
theorem dX12_fits8_61 : decode cX12_fits8 61 = .ok (.iconst 1, 1) := by decide +kernel
theorem dX12_fits8_62 : decode cX12_fits8 62 = .ok (.iadd, 1) := by decide +kernel
theorem dX12_fits8_63 : decode cX12_fits8 63 = .ok (.iastore, 1) := by decide +kernel
theorem dX12_fits8_64 : decode cX12_fits8 64 = .ok (.goto (-28), 3) := by decide +kernel
theorem dX12_fits8_67 : decode cX12_fits8 67 = .ok (.aload_n 0, 1) := by decide +kernel
theorem dX12_fits8_68 : decode cX12_fits8 68 = .ok (.getfield 238, 3) := by decide +kernel
theorem dX12_fits8_71 : decode cX12_fits8 71 = .ok (.iload_n 2, 1) := by decide +kernel
theorem dX12_fits8_72 : decode cX12_fits8 72 = .ok (.iaload, 1) := by decide +kernel
theorem dX12_fits8_73 : decode cX12_fits8 73 = .ok (.iload_n 1, 1) := by decide +kernel
theorem dX12_fits8_74 : decode cX12_fits8 74 = .ok (.if_icmp .ge 16, 3) := by decide +kernel
theorem dX12_fits8_77 : decode cX12_fits8 77 = .ok (.iinc 2 1, 3) := by decide +kernel
theorem dX12_fits8_80 : decode cX12_fits8 80 = .ok (.aload_n 0, 1) := by decide +kernel
theorem dX12_fits8_81 : decode cX12_fits8 81 = .ok (.getfield 238, 3) := by decide +kernel
theorem dX12_fits8_84 : decode cX12_fits8 84 = .ok (.iload_n 2, 1) := by decide +kernel
theorem dX12_fits8_85 : decode cX12_fits8 85 = .ok (.iconst (-1), 1) := by decide +kernel
theorem dX12_fits8_86 : decode cX12_fits8 86 = .ok (.iastore, 1) := by decide +kernel
theorem dX12_fits8_87 : decode cX12_fits8 87 = .ok (.goto (-78), 3) := by decide +kernel
theorem dX12_fits8_90 : decode cX12_fits8 90 = .ok (.iinc 2 (-1), 3) := by decide +kernel
theorem dX12_fits8_93 : decode cX12_fits8 93 = .ok (.goto (-84), 3) := by decide +kernel
theorem dX12_fits8_96 : decode cX12_fits8 96 = .ok (.iload_n 2, 1) := by decide +kernel
theorem dX12_fits8_97 : decode cX12_fits8 97 = .ok (.ifCond .lt 7, 3) := by decide +kernel
theorem dX12_fits8_100 : decode cX12_fits8 100 = .ok (.iconst 1, 1) := by decide +kernel
theorem dX12_fits8_101 : decode cX12_fits8 101 = .ok (.goto 4, 3) := by decide +kernel
theorem dX12_fits8_104 : decode cX12_fits8 104 = .ok (.iconst 0, 1) := by decide +kernel
theorem dX12_fits8_105 : decode cX12_fits8 105 = .ok (.ireturn, 1) := by decide +kernel
theorem dX12_fewest_0 : decode cX12_fewest 0 = .ok (.iload_n 1, 1) := by decide +kernel
theorem dX12_fewest_1 : decode cX12_fewest 1 = .ok (.iconst (-1), 1) := by decide +kernel
theorem dX12_fewest_2 : decode cX12_fewest 2 = .ok (.if_icmp .eq 24, 3) := by decide +kernel
theorem dX12_fewest_5 : decode cX12_fewest 5 = .ok (.iload_n 1, 1) := by decide +kernel
theorem dX12_fewest_6 : decode cX12_fewest 6 = .ok (.iconst 0, 1) := by decide +kernel
theorem dX12_fewest_7 : decode cX12_fewest 7 = .ok (.aload_n 0, 1) := by decide +kernel
theorem dX12_fewest_8 : decode cX12_fewest 8 = .ok (.getfield 122, 3) := by decide +kernel
theorem dX12_fewest_11 : decode cX12_fewest 11 = .ok (.aload_n 0, 1) := by decide +kernel
theorem dX12_fewest_12 : decode cX12_fewest 12 = .ok (.getfield 48, 3) := by decide +kernel
theorem dX12_fewest_15 : decode cX12_fewest 15 = .ok (.iaload, 1) := by decide +kernel
theorem dX12_fewest_16 : decode cX12_fewest 16 = .ok (.iconst 1, 1) := by decide +kernel
theorem dX12_fewest_17 : decode cX12_fewest 17 = .ok (.isub, 1) := by decide +kernel
theorem dX12_fewest_18 : decode cX12_fewest 18 = .ok (.invokestatic 352, 3) := by decide +kernel
theorem dX12_fewest_21 : decode cX12_fewest 21 = .ok (.ifCond .ne 5, 3) := by decide +kernel
theorem dX12_fewest_24 : decode cX12_fewest 24 = .ok (.iconst (-1), 1) := by decide +kernel
theorem dX12_fewest_25 : decode cX12_fewest 25 = .ok (.ireturn, 1) := by decide +kernel
theorem dX12_fewest_26 : decode cX12_fewest 26 = .ok (.iconst 0, 1) := by decide +kernel
theorem dX12_fewest_27 : decode cX12_fewest 27 = .ok (.istore_n 2, 1) := by decide +kernel
theorem dX12_fewest_28 : decode cX12_fewest 28 = .ok (.aload_n 0, 1) := by decide +kernel
theorem dX12_fewest_29 : decode cX12_fewest 29 = .ok (.iload_n 2, 1) := by decide +kernel
theorem dX12_fewest_30 : decode cX12_fewest 30 = .ok (.invokevirtual 612, 3) := by decide +kernel
theorem dX12_fewest_33 : decode cX12_fewest 33 = .ok (.ifCond .ne 9, 3) := by decide +kernel
theorem dX12_fewest_36 : decode cX12_fewest 36 = .ok (.iinc 2 1, 3) := by decide +kernel
theorem dX12_fewest_39 : decode cX12_fewest 39 = .ok (.goto (-11), 3) := by decide +kernel
theorem dX12_fewest_42 : decode cX12_fewest 42 = .ok (.iload_n 1, 1) := by decide +kernel
theorem dX12_fewest_43 : decode cX12_fewest 43 = .ok (.iconst (-1), 1) := by decide +kernel
theorem dX12_fewest_44 : decode cX12_fewest 44 = .ok (.if_icmp .ne 7, 3) := by decide +kernel
theorem dX12_fewest_47 : decode cX12_fewest 47 = .ok (.iload_n 2, 1) := by decide +kernel
theorem dX12_fewest_48 : decode cX12_fewest 48 = .ok (.goto 9, 3) := by decide +kernel
theorem dX12_fewest_51 : decode cX12_fewest 51 = .ok (.aload_n 0, 1) := by decide +kernel
theorem dX12_fewest_52 : decode cX12_fewest 52 = .ok (.getfield 238, 3) := by decide +kernel
theorem dX12_fewest_55 : decode cX12_fewest 55 = .ok (.iload_n 1, 1) := by decide +kernel
theorem dX12_fewest_56 : decode cX12_fewest 56 = .ok (.iaload, 1) := by decide +kernel
theorem dX12_fewest_57 : decode cX12_fewest 57 = .ok (.ireturn, 1) := by decide +kernel
