theorem dX5_readHas_0 : decode cX5_readHas 0 = .ok (.aload_n 0, 1) := by decide +kernel
theorem dX5_readHas_1 : decode cX5_readHas 1 = .ok (.aload_n 1, 1) := by decide +kernel
theorem dX5_readHas_2 : decode cX5_readHas 2 = .ok (.iconst 3, 1) := by decide +kernel
theorem dX5_readHas_3 : decode cX5_readHas 3 = .ok (.invokevirtual 128, 3) := by decide +kernel
theorem dX5_readHas_6 : decode cX5_readHas 6 = .ok (.istore_n 2, 1) := by decide +kernel
theorem dX5_readHas_7 : decode cX5_readHas 7 = .ok (.iload_n 2, 1) := by decide +kernel
theorem dX5_readHas_8 : decode cX5_readHas 8 = .ok (.iconst (-1), 1) := by decide +kernel
theorem dX5_readHas_9 : decode cX5_readHas 9 = .ok (.if_icmp .ne 7, 3) := by decide +kernel
theorem dX5_readHas_12 : decode cX5_readHas 12 = .ok (.iconst (-1), 1) := by decide +kernel
theorem dX5_readHas_13 : decode cX5_readHas 13 = .ok (.goto 9, 3) := by decide +kernel
theorem dX5_readHas_16 : decode cX5_readHas 16 = .ok (.aload_n 0, 1) := by decide +kernel
theorem dX5_readHas_17 : decode cX5_readHas 17 = .ok (.aload_n 1, 1) := by decide +kernel
theorem dX5_readHas_18 : decode cX5_readHas 18 = .ok (.iconst 2, 1) := by decide +kernel
theorem dX5_readHas_19 : decode cX5_readHas 19 = .ok (.invokevirtual 128, 3) := by decide +kernel
theorem dX5_readHas_22 : decode cX5_readHas 22 = .ok (.istore_n 3, 1) := by decide +kernel
theorem dX5_readHas_23 : decode cX5_readHas 23 = .ok (.iload_n 3, 1) := by decide +kernel
theorem dX5_readHas_24 : decode cX5_readHas 24 = .ok (.iconst (-1), 1) := by decide +kernel
theorem dX5_readHas_25 : decode cX5_readHas 25 = .ok (.if_icmp .ne 5, 3) := by decide +kernel
theorem dX5_readHas_28 : decode cX5_readHas 28 = .ok (.iconst 0, 1) := by decide +kernel
theorem dX5_readHas_29 : decode cX5_readHas 29 = .ok (.ireturn, 1) := by decide +kernel
theorem dX5_readHas_30 : decode cX5_readHas 30 = .ok (.aload_n 1, 1) := by decide +kernel
theorem dX5_readHas_31 : decode cX5_readHas 31 = .ok (.getfield 190, 3) := by decide +kernel
theorem dX5_readHas_34 : decode cX5_readHas 34 = .ok (.getfield 194, 3) := by decide +kernel
theorem dX5_readHas_37 : decode cX5_readHas 37 = .ok (.iload_n 3, 1) := by decide +kernel
theorem dX5_readHas_38 : decode cX5_readHas 38 = .ok (.iaload, 1) := by decide +kernel
theorem dX5_readHas_39 : decode cX5_readHas 39 = .ok (.bipush 10, 2) := by decide +kernel
theorem dX5_readHas_41 : decode cX5_readHas 41 = .ok (.if_icmp .ge 9, 3) := by decide +kernel
theorem dX5_readHas_44 : decode cX5_readHas 44 = .ok (.aload_n 0, 1) := by decide +kernel
theorem dX5_readHas_45 : decode cX5_readHas 45 = .ok (.iconst 3, 1) := by decide +kernel
theorem dX5_readHas_46 : decode cX5_readHas 46 = .ok (.invokevirtual 132, 3) := by decide +kernel
theorem dX5_readHas_49 : decode cX5_readHas 49 = .ok (.ireturn, 1) := by decide +kernel
theorem dX5_readHas_50 : decode cX5_readHas 50 = .ok (.aload_n 1, 1) := by decide +kernel
theorem dX5_readHas_51 : decode cX5_readHas 51 = .ok (.getfield 190, 3) := by decide +kernel
theorem dX5_readHas_54 : decode cX5_readHas 54 = .ok (.getfield 194, 3) := by decide +kernel
theorem dX5_readHas_57 : decode cX5_readHas 57 = .ok (.iload_n 3, 1) := by decide +kernel
theorem dX5_readHas_58 : decode cX5_readHas 58 = .ok (.iload_n 2, 1) := by decide +kernel
theorem dX5_readHas_59 : decode cX5_readHas 59 = .ok (.iastore, 1) := by decide +kernel
theorem dX5_readHas_60 : decode cX5_readHas 60 = .ok (.iconst 1, 1) := by decide +kernel
theorem dX5_readHas_61 : decode cX5_readHas 61 = .ok (.ireturn, 1) := by decide +kernel
theorem dX5_comparisonSign_0 : decode cX5_comparisonSign 0 = .ok (.aload_n 0, 1) := by decide +kernel
theorem dX5_comparisonSign_1 : decode cX5_comparisonSign 1 = .ok (.getfield 30, 3) := by decide +kernel
theorem dX5_comparisonSign_4 : decode cX5_comparisonSign 4 = .ok (.invokevirtual 54, 3) := by decide +kernel
theorem dX5_comparisonSign_7 : decode cX5_comparisonSign 7 = .ok (.iconst (-1), 1) := by decide +kernel
theorem dX5_comparisonSign_8 : decode cX5_comparisonSign 8 = .ok (.istore_n 1, 1) := by decide +kernel
theorem dX5_comparisonSign_9 : decode cX5_comparisonSign 9 = .ok (.aload_n 0, 1) := by decide +kernel
theorem dX5_comparisonSign_10 : decode cX5_comparisonSign 10 = .ok (.getfield 30, 3) := by decide +kernel
theorem dX5_comparisonSign_13 : decode cX5_comparisonSign 13 = .ok (.bipush 60, 2) := by decide +kernel
theorem dX5_comparisonSign_15 : decode cX5_comparisonSign 15 = .ok (.invokevirtual 241, 3) := by decide +kernel
theorem dX5_comparisonSign_18 : decode cX5_comparisonSign 18 = .ok (.ifCond .eq 9, 3) := by decide +kernel
theorem dX5_comparisonSign_21 : decode cX5_comparisonSign 21 = .ok (.bipush (-9), 2) := by decide +kernel
theorem dX5_comparisonSign_23 : decode cX5_comparisonSign 23 = .ok (.istore_n 1, 1) := by decide +kernel
theorem dX5_comparisonSign_24 : decode cX5_comparisonSign 24 = .ok (.goto 45, 3) := by decide +kernel
theorem dX5_comparisonSign_27 : decode cX5_comparisonSign 27 = .ok (.aload_n 0, 1) := by decide +kernel
theorem dX5_comparisonSign_28 : decode cX5_comparisonSign 28 = .ok (.getfield 30, 3) := by decide +kernel
theorem dX5_comparisonSign_31 : decode cX5_comparisonSign 31 = .ok (.bipush 62, 2) := by decide +kernel
theorem dX5_comparisonSign_33 : decode cX5_comparisonSign 33 = .ok (.invokevirtual 241, 3) := by decide +kernel
theorem dX5_comparisonSign_36 : decode cX5_comparisonSign 36 = .ok (.ifCond .eq 9, 3) := by decide +kernel
theorem dX5_comparisonSign_39 : decode cX5_comparisonSign 39 = .ok (.bipush (-10), 2) := by decide +kernel
theorem dX5_comparisonSign_41 : decode cX5_comparisonSign 41 = .ok (.istore_n 1, 1) := by decide +kernel
theorem dX5_comparisonSign_42 : decode cX5_comparisonSign 42 = .ok (.goto 27, 3) := by decide +kernel
theorem dX5_comparisonSign_45 : decode cX5_comparisonSign 45 = .ok (.aload_n 0, 1) := by decide +kernel
theorem dX5_comparisonSign_46 : decode cX5_comparisonSign 46 = .ok (.getfield 30, 3) := by decide +kernel
theorem dX5_comparisonSign_49 : decode cX5_comparisonSign 49 = .ok (.bipush 61, 2) := by decide +kernel
theorem dX5_comparisonSign_51 : decode cX5_comparisonSign 51 = .ok (.invokevirtual 241, 3) := by decide +kernel
theorem dX5_comparisonSign_54 : decode cX5_comparisonSign 54 = .ok (.ifCond .eq 9, 3) := by decide +kernel
theorem dX5_comparisonSign_57 : decode cX5_comparisonSign 57 = .ok (.bipush (-11), 2) := by decide +kernel
theorem dX5_comparisonSign_59 : decode cX5_comparisonSign 59 = .ok (.istore_n 1, 1) := by decide +kernel
theorem dX5_comparisonSign_60 : decode cX5_comparisonSign 60 = .ok (.goto 9, 3) := by decide +kernel
theorem dX5_comparisonSign_63 : decode cX5_comparisonSign 63 = .ok (.aload_n 0, 1) := by decide +kernel
theorem dX5_comparisonSign_64 : decode cX5_comparisonSign 64 = .ok (.iconst 1, 1) := by decide +kernel
theorem dX5_comparisonSign_65 : decode cX5_comparisonSign 65 = .ok (.invokevirtual 132, 3) := by decide +kernel
theorem dX5_comparisonSign_68 : decode cX5_comparisonSign 68 = .ok (.pop, 1) := by decide +kernel
theorem dX5_comparisonSign_69 : decode cX5_comparisonSign 69 = .ok (.aload_n 0, 1) := by decide +kernel
theorem dX5_comparisonSign_70 : decode cX5_comparisonSign 70 = .ok (.getfield 30, 3) := by decide +kernel
theorem dX5_comparisonSign_73 : decode cX5_comparisonSign 73 = .ok (.invokevirtual 125, 3) := by decide +kernel
theorem dX5_comparisonSign_76 : decode cX5_comparisonSign 76 = .ok (.iload_n 1, 1) := by decide +kernel
theorem dX5_comparisonSign_77 : decode cX5_comparisonSign 77 = .ok (.ireturn, 1) := by decide +kernel
theorem dX5_enter_0 : decode cX5_enter 0 = .ok (.aload_n 0, 1) := by decide +kernel
theorem dX5_enter_1 : decode cX5_enter 1 = .ok (.getfield 22, 3) := by decide +kernel
theorem dX5_enter_4 : decode cX5_enter 4 = .ok (.bipush 8, 2) := by decide +kernel
theorem dX5_enter_6 : decode cX5_enter 6 = .ok (.if_icmp .lt 9, 3) := by decide +kernel
theorem dX5_enter_9 : decode cX5_enter 9 = .ok (.aload_n 0, 1) := by decide +kernel
theorem dX5_enter_10 : decode cX5_enter 10 = .ok (.iconst 5, 1) := by decide +kernel
theorem dX5_enter_11 : decode cX5_enter 11 = .ok (.invokevirtual 132, 3) := by decide +kernel
theorem dX5_enter_14 : decode cX5_enter 14 = .ok (.ireturn, 1) := by decide +kernel
theorem dX5_enter_15 : decode cX5_enter 15 = .ok (.aload_n 0, 1) := by decide +kernel
theorem dX5_enter_16 : decode cX5_enter 16 = .ok (.dup, 1) := by decide +kernel
theorem dX5_enter_17 : decode cX5_enter 17 = .ok (.getfield 22, 3) := by decide +kernel
theorem dX5_enter_20 : decode cX5_enter 20 = .ok (.iconst 1, 1) := by decide +kernel
theorem dX5_enter_21 : decode cX5_enter 21 = .ok (.iadd, 1) := by decide +kernel
theorem dX5_enter_22 : decode cX5_enter 22 = .ok (.putfield 22, 3) := by decide +kernel
theorem dX5_enter_25 : decode cX5_enter 25 = .ok (.iconst 1, 1) := by decide +kernel
theorem dX5_enter_26 : decode cX5_enter 26 = .ok (.ireturn, 1) := by decide +kernel
theorem dX5_leave_0 : decode cX5_leave 0 = .ok (.aload_n 0, 1) := by decide +kernel
theorem dX5_leave_1 : decode cX5_leave 1 = .ok (.dup, 1) := by decide +kernel
theorem dX5_leave_2 : decode cX5_leave 2 = .ok (.getfield 22, 3) := by decide +kernel
theorem dX5_leave_5 : decode cX5_leave 5 = .ok (.iconst 1, 1) := by decide +kernel
theorem dX5_leave_6 : decode cX5_leave 6 = .ok (.isub, 1) := by decide +kernel
theorem dX5_leave_7 : decode cX5_leave 7 = .ok (.putfield 22, 3) := by decide +kernel
theorem dX5_leave_10 : decode cX5_leave 10 = .ok (.iconst 1, 1) := by decide +kernel
theorem dX5_leave_11 : decode cX5_leave 11 = .ok (.ireturn, 1) := by decide +kernel
theorem dX5_passesSign_0 : decode cX5_passesSign 0 = .ok (.aload_n 0, 1) := by decide +kernel
theorem dX5_passesSign_1 : decode cX5_passesSign 1 = .ok (.getfield 30, 3) := by decide +kernel
theorem dX5_passesSign_4 : decode cX5_passesSign 4 = .ok (.invokevirtual 54, 3) := by decide +kernel
theorem dX5_passesSign_7 : decode cX5_passesSign 7 = .ok (.aload_n 0, 1) := by decide +kernel
theorem dX5_passesSign_8 : decode cX5_passesSign 8 = .ok (.getfield 30, 3) := by decide +kernel
theorem dX5_passesSign_11 : decode cX5_passesSign 11 = .ok (.iload_n 1, 1) := by decide +kernel
theorem dX5_passesSign_12 : decode cX5_passesSign 12 = .ok (.invokevirtual 241, 3) := by decide +kernel
theorem dX5_passesSign_15 : decode cX5_passesSign 15 = .ok (.ifCond .ne 5, 3) := by decide +kernel
theorem dX5_passesSign_18 : decode cX5_passesSign 18 = .ok (.iconst 0, 1) := by decide +kernel
theorem dX5_passesSign_19 : decode cX5_passesSign 19 = .ok (.ireturn, 1) := by decide +kernel
theorem dX5_passesSign_20 : decode cX5_passesSign 20 = .ok (.aload_n 0, 1) := by decide +kernel
theorem dX5_passesSign_21 : decode cX5_passesSign 21 = .ok (.getfield 30, 3) := by decide +kernel
theorem dX5_passesSign_24 : decode cX5_passesSign 24 = .ok (.invokevirtual 125, 3) := by decide +kernel
theorem dX5_passesSign_27 : decode cX5_passesSign 27 = .ok (.iconst 1, 1) := by decide +kernel
theorem dX5_passesSign_28 : decode cX5_passesSign 28 = .ok (.ireturn, 1) := by decide +kernel
theorem dX8_add_0 : decode cX8_add 0 = .ok (.aload_n 0, 1) := by decide +kernel
theorem dX8_add_1 : decode cX8_add 1 = .ok (.getfield 18, 3) := by decide +kernel
theorem dX8_add_4 : decode cX8_add 4 = .ok (.ifCond .lt 13, 3) := by decide +kernel
theorem dX8_add_7 : decode cX8_add 7 = .ok (.aload_n 0, 1) := by decide +kernel
theorem dX8_add_8 : decode cX8_add 8 = .ok (.getfield 18, 3) := by decide +kernel
theorem dX8_add_11 : decode cX8_add 11 = .ok (.sipush 1600, 3) := by decide +kernel
theorem dX8_add_14 : decode cX8_add 14 = .ok (.if_icmp .lt 5, 3) := by decide +kernel
theorem dX8_add_17 : decode cX8_add 17 = .ok (.iconst 0, 1) := by decide +kernel
theorem dX8_add_18 : decode cX8_add 18 = .ok (.ireturn, 1) := by decide +kernel
theorem dX8_add_19 : decode cX8_add 19 = .ok (.aload_n 0, 1) := by decide +kernel
theorem dX8_add_20 : decode cX8_add 20 = .ok (.getfield 9, 3) := by decide +kernel
theorem dX8_add_23 : decode cX8_add 23 = .ok (.aload_n 0, 1) := by decide +kernel
theorem dX8_add_24 : decode cX8_add 24 = .ok (.getfield 18, 3) := by decide +kernel
theorem dX8_add_27 : decode cX8_add 27 = .ok (.iload_n 1, 1) := by decide +kernel
theorem dX8_add_28 : decode cX8_add 28 = .ok (.iastore, 1) := by decide +kernel
theorem dX8_add_29 : decode cX8_add 29 = .ok (.aload_n 0, 1) := by decide +kernel
theorem dX8_add_30 : decode cX8_add 30 = .ok (.dup, 1) := by decide +kernel
theorem dX8_add_31 : decode cX8_add 31 = .ok (.getfield 18, 3) := by decide +kernel
theorem dX8_add_34 : decode cX8_add 34 = .ok (.iconst 1, 1) := by decide +kernel
theorem dX8_add_35 : decode cX8_add 35 = .ok (.iadd, 1) := by decide +kernel
theorem dX8_add_36 : decode cX8_add 36 = .ok (.putfield 18, 3) := by decide +kernel
theorem dX8_add_39 : decode cX8_add 39 = .ok (.iconst 1, 1) := by decide +kernel
theorem dX8_add_40 : decode cX8_add 40 = .ok (.ireturn, 1) := by decide +kernel
theorem dX9_addBar_0 : decode cX9_addBar 0 = .ok (.aload_n 0, 1) := by decide +kernel
theorem dX9_addBar_1 : decode cX9_addBar 1 = .ok (.getfield 9, 3) := by decide +kernel
theorem dX9_addBar_4 : decode cX9_addBar 4 = .ok (.bipush 7, 2) := by decide +kernel
theorem dX9_addBar_6 : decode cX9_addBar 6 = .ok (.iaload, 1) := by decide +kernel
theorem dX9_addBar_7 : decode cX9_addBar 7 = .ok (.istore 4, 2) := by decide +kernel
theorem dX9_addBar_9 : decode cX9_addBar 9 = .ok (.iload 4, 2) := by decide +kernel
theorem dX9_addBar_11 : decode cX9_addBar 11 = .ok (.ifCond .lt 10, 3) := by decide +kernel
theorem dX9_addBar_14 : decode cX9_addBar 14 = .ok (.iload 4, 2) := by decide +kernel
theorem dX9_addBar_16 : decode cX9_addBar 16 = .ok (.bipush 6, 2) := by decide +kernel
theorem dX9_addBar_18 : decode cX9_addBar 18 = .ok (.if_icmp .lt 5, 3) := by decide +kernel
theorem dX9_addBar_21 : decode cX9_addBar 21 = .ok (.iconst 0, 1) := by decide +kernel
theorem dX9_addBar_22 : decode cX9_addBar 22 = .ok (.ireturn, 1) := by decide +kernel
theorem dX9_addBar_23 : decode cX9_addBar 23 = .ok (.aload_n 0, 1) := by decide +kernel
theorem dX9_addBar_24 : decode cX9_addBar 24 = .ok (.getfield 44, 3) := by decide +kernel
theorem dX9_addBar_27 : decode cX9_addBar 27 = .ok (.iload 4, 2) := by decide +kernel
theorem dX9_addBar_29 : decode cX9_addBar 29 = .ok (.iload_n 1, 1) := by decide +kernel
theorem dX9_addBar_30 : decode cX9_addBar 30 = .ok (.iastore, 1) := by decide +kernel
theorem dX9_addBar_31 : decode cX9_addBar 31 = .ok (.aload_n 0, 1) := by decide +kernel
theorem dX9_addBar_32 : decode cX9_addBar 32 = .ok (.getfield 47, 3) := by decide +kernel
theorem dX9_addBar_35 : decode cX9_addBar 35 = .ok (.iload 4, 2) := by decide +kernel
theorem dX9_addBar_37 : decode cX9_addBar 37 = .ok (.iload_n 2, 1) := by decide +kernel
theorem dX9_addBar_38 : decode cX9_addBar 38 = .ok (.iastore, 1) := by decide +kernel
theorem dX9_addBar_39 : decode cX9_addBar 39 = .ok (.aload_n 0, 1) := by decide +kernel
theorem dX9_addBar_40 : decode cX9_addBar 40 = .ok (.getfield 50, 3) := by decide +kernel
theorem dX9_addBar_43 : decode cX9_addBar 43 = .ok (.iload 4, 2) := by decide +kernel
theorem dX9_addBar_45 : decode cX9_addBar 45 = .ok (.iload_n 3, 1) := by decide +kernel
theorem dX9_addBar_46 : decode cX9_addBar 46 = .ok (.iastore, 1) := by decide +kernel
theorem dX9_addBar_47 : decode cX9_addBar 47 = .ok (.aload_n 0, 1) := by decide +kernel
theorem dX9_addBar_48 : decode cX9_addBar 48 = .ok (.getfield 9, 3) := by decide +kernel
theorem dX9_addBar_51 : decode cX9_addBar 51 = .ok (.bipush 7, 2) := by decide +kernel
theorem dX9_addBar_53 : decode cX9_addBar 53 = .ok (.dup2, 1) := by decide +kernel
theorem dX9_addBar_54 : decode cX9_addBar 54 = .ok (.iaload, 1) := by decide +kernel
theorem dX9_addBar_55 : decode cX9_addBar 55 = .ok (.iconst 1, 1) := by decide +kernel
theorem dX9_addBar_56 : decode cX9_addBar 56 = .ok (.iadd, 1) := by decide +kernel
theorem dX9_addBar_57 : decode cX9_addBar 57 = .ok (.iastore, 1) := by decide +kernel
theorem dX9_addBar_58 : decode cX9_addBar 58 = .ok (.iconst 1, 1) := by decide +kernel
theorem dX9_addBar_59 : decode cX9_addBar 59 = .ok (.ireturn, 1) := by decide +kernel
abbrev tr_d_X5_readHas_1 (ta : Nat) (z1 : Int) (z : Int) (u : St) (z11 : Int) (A13 : St) : Prop := ((IK A13) ∧ ((-1 ≤ z11 ∧ z11 ≤ 3) ∧ (((¬ z11 = (-1)) ∧ (∃ z19 : Int, z19 = A13 ((ta + 22) + 2) (z11).toNat ∧ (((10 ≤ z19) ∧ (∃ A21 : St, A21 = stA A13 ((ta + 22) + 2) (z11).toNat z1 ∧ (z = 1 ∧ u = A21))) ∨ ((¬ 10 ≤ z19) ∧ (∃ z22 : Int, ∃ A23 : St, q_X5_bad 3 A13 z22 A23 ∧ (z = z22 ∧ u = A23)))))) ∨ ((z11 = (-1)) ∧ (z = 0 ∧ u = A13)))))
def d_X5_readHas_1 (ta : Nat) (z1 : Int) (z : Int) (u : St) (z11 : Int) (A13 : St) : Prop := tr_d_X5_readHas_1 ta z1 z u z11 A13
theorem u_d_X5_readHas_1 {ta : Nat} {z1 : Int} {z : Int} {u : St} {z11 : Int} {A13 : St} (h : tr_d_X5_readHas_1 ta z1 z u z11 A13) : d_X5_readHas_1 ta z1 z u z11 A13 := h
abbrev tr_r_X5_readHas (ta : Nat) (A : St) (z : Int) (u : St) : Prop := (∃ z1 : Int, ∃ A2 : St, q_X5_asked_2_3 ta A z1 A2 ∧ (((¬ z1 = (-1)) ∧ (∃ z7 : Int, ∃ A8 : St, q_X5_asked_2_2 ta A2 z7 A8 ∧ (d_X5_readHas_1 ta z1 z u z7 A8))) ∨ ((z1 = (-1)) ∧ (d_X5_readHas_1 ta z1 z u (-1) A2))))
def r_X5_readHas (ta : Nat) (A : St) (z : Int) (u : St) : Prop := tr_r_X5_readHas ta A z u
theorem u_r_X5_readHas {ta : Nat} {A : St} {z : Int} {u : St} (h : tr_r_X5_readHas ta A z u) : r_X5_readHas ta A z u := h
def q_X5_readHas (ta : Nat) (A : St) (z : Int) (u : St) : Prop := r_X5_readHas ta A z u ∧ IK u ∧ fk [34, 43, 75, 106] [(3, 2), (3, 3), (5, 1), (5, 2), (5, 3), (5, 4), (5, 5), (5, 6)] A u ∧ (0 ≤ z ∧ z ≤ 1)
def ws_kc_X5_readHas : List Cond := .code yX5_readHas cX5_readHas 4 (some .boolean) :: WY
set_option maxHeartbeats 4000000 in
set_option maxRecDepth 100000 in
theorem kc_X5_readHas (l : Launch) (dC : Nat → ClassId) (dI : Nat → Nat → Nat) (cB cI cJ cZ cQ : ClassId) (aL aS : Nat) (q : Nat → Nat) (A : St) (ta : Nat) (hI : IK A) (hta : isT ta) : KMi l yX5_readHas ws_kc_X5_readHas ({ frames := 4, cells := 0, slots := 0, locals := 89 } : Room) aL aS (dC, dI) (tyA cB cI cJ cZ cQ) (WK cB cI cJ cZ cQ q) A [.ref (q 3), .ref (q ta)] (fun z u => r_X5_readHas ta A z u ∧ IK u ∧ fk [34, 43, 75, 106] [(3, 2), (3, 3), (5, 1), (5, 2), (5, 3), (5, 4), (5, 5), (5, 6)] A u ∧ (0 ≤ z ∧ z ≤ 1)) := by
  refine k_metz (cc := cX5_readHas) (maxL := 4) WK_adr (plainFor_of_name (by decide +kernel)) rfl (Nat.le_of_ble_eq_true rfl) (fun z u h => h.2.2.2) (fun p e s m below meth c Q AS ls hx hb hml hown hts hK hDD hA0 hE RET H locs hP hS hl => ?_)
  have hown : s.vm.findClass RX5 = some m.cls := hown
  have hl : lv_has ls 4 [(0, .ref (q 3)), (1, .ref (q ta))] := hl
  have hiX9 : ∀ w ∈ u_ws RX9 TX9 16, w ∈ ws_kc_X5_readHas := fun w h => List.mem_cons_of_mem _ (wy_layX9 w h)
  have hiX6 : ∀ w ∈ u_ws RX6 TX6 4, w ∈ ws_kc_X5_readHas := fun w h => List.mem_cons_of_mem _ (wy_layX6 w h)
  refine lv_aload_n hx hb dX5_readHas_0 rfl (lv_at hl 0 rfl) ?_
  refine lv_aload_n hx hb dX5_readHas_1 rfl (lv_at hl 1 rfl) ?_
  refine lv_iconst (v := iI 3) hx hb dX5_readHas_2 (by decide +kernel) ?_
  refine k_calli (As := [.ref (q ta), .int (iI 3)]) (rest := []) ⟨hx, hb, hml, hown, hts⟩ hE (kc_X5_asked_2_3 l dC dI cB cI cJ cZ cQ aL aS q _ ta hI hta) (cwV 2 hts (goodVk (wk_in_6 _ (List.mem_of_getElem? (i := 6) rfl)) (wk_in_6 _ (List.mem_of_getElem? (i := 7) rfl)) (wk_in_6 _ (List.mem_of_getElem? (i := 8) rfl)) (wk_in_5 _ (List.mem_of_getElem? (i := 28) rfl)) (wk_in_6 _ (List.mem_of_getElem? (i := 9) rfl))) rfl rfl rfl (by decide +kernel) ⟨Nat.le_of_ble_eq_true rfl, Nat.le_of_ble_eq_true rfl⟩) hK hDD hA0 hP hS 3 5 (wkRD) rfl rfl hl.1 (Nat.le_of_ble_eq_true rfl) dX5_readHas_3 (fun z1 A2 H locs hw3 hP hS => ?_)
  have ghw3 : q_X5_asked_2_3 ta A z1 A2 := hw3
  obtain ⟨_, hI, hf4, hw3⟩ := hw3
  refine lv_istore_n (lv' := [(2, .int (iI z1)), (0, .ref (q 3)), (1, .ref (q ta))]) hx hb dX5_readHas_6 rfl hl (by decide) rfl (fun ls hl => ?_)
  refine lv_iload_n hx hb dX5_readHas_7 rfl (lv_at hl 0 rfl) ?_
  refine lv_iconst (v := iI (-1)) hx hb dX5_readHas_8 (by decide +kernel) ?_
  have J22_6 : ∀ (z11 : Int) (A13 : St) (H : Heap) (locs : List Loc) (ls : Array Slot), (-1 ≤ z11 ∧ z11 ≤ 3) → (∀ (z : Int) (u : St), (d_X5_readHas_1 ta z1 z u z11 A13) → r_X5_readHas ta A z u) → IK A13 → fk [] [(3, 2), (3, 3), (5, 1), (5, 2), (5, 3), (5, 4), (5, 5), (5, 6)] A2 A13 → va_P (dC, dI) vwCl (WK cB cI cJ cZ cQ q A13) H → va_S AS s.heap H locs → lv_has ls 4 [(2, .int (iI z1)), (0, .ref (q 3)), (1, .ref (q ta))] → W p l e (headSpec ws_kc_X5_readHas ({ frames := 4, cells := 0, slots := 0, locals := 89 } : Room)).room s m [.ref (q 3), .ref (q ta)].toArray below meth c H locs 0 0 Q (F0 m 22 ls [.int (iI z11)]) := by
    intro z11 A13 H locs ls f14 hk1 hI hj12 hP hS hl
    have gI15 : Hd (IK A13) := Hd.mk hI
    refine lv_istore_n (lv' := [(3, .int (iI z11)), (2, .int (iI z1)), (0, .ref (q 3)), (1, .ref (q ta))]) hx hb dX5_readHas_22 rfl hl (by decide) rfl (fun ls hl => ?_)
    refine lv_iload_n hx hb dX5_readHas_23 rfl (lv_at hl 0 rfl) ?_
    refine lv_iconst (v := iI (-1)) hx hb dX5_readHas_24 (by decide +kernel) ?_
    refine lv_icmp_ne (tgt := 30) hx hb dX5_readHas_25 (by decide) (fun c16 => ?_) (fun c16 => ?_)
    · have c16 : ¬ z11 = (-1) := mt (i_eq (rb f14 (by decide) (by decide)) ⟨by decide, by decide⟩).mpr c16
      refine lv_aload_n hx hb dX5_readHas_30 rfl (lv_at hl 3 rfl) ?_
      refine va_get (D := (dC, dI)) (ci := 9) (v := .ref (q (ta + 22))) (C := RX9) (T := TX9) (N := 16) hx hb hts hiX9 hown hK hP ta (wkT hta) rfl 14 (by decide) (hts _ (List.mem_cons_of_mem _ (wk_in_8 _ (List.mem_of_getElem? (i := 32) rfl)))) (fun _ h9 => h9) rfl dX5_readHas_31 ?_
      refine va_get (D := (dC, dI)) (ci := 6) (v := .ref (q ((ta + 22) + 2))) (C := RX6) (T := TX6) (N := 4) hx hb hts hiX6 hown hK hP (ta + 22) (wkS hta.s) rfl 1 (by decide) (hts _ (List.mem_cons_of_mem _ (wk_in_8 _ (List.mem_of_getElem? (i := 33) rfl)))) (fun _ h9 => h9) rfl dX5_readHas_34 ?_
      refine lv_iload_n hx hb dX5_readHas_37 rfl (lv_at hl 0 rfl) ?_
      have a18 : ∀ k, A2 ((ta + 22) + 2) k = A ((ta + 22) + 2) k := fun k => hf4 ((ta + 22) + 2) k (isS.b2 (o := fun b => List.contains [] (b + 2)) hta.s rfl rfl rfl rfl) (isS.b2 (o := fun b => fin2 [(3, 2), (3, 3), (5, 1), (5, 2), (5, 3), (5, 4), (5, 5), (5, 6)] (b + 2) k) hta.s rfl rfl rfl rfl)
      have a17 : ∀ k, A13 ((ta + 22) + 2) k = A ((ta + 22) + 2) k := fun k => (hj12 ((ta + 22) + 2) k (isS.b2 (o := fun b => List.contains [] (b + 2)) hta.s rfl rfl rfl rfl) (isS.b2 (o := fun b => fin2 [(3, 2), (3, 3), (5, 1), (5, 2), (5, 3), (5, 4), (5, 5), (5, 6)] (b + 2) k) hta.s rfl rfl rfl rfl)).trans (a18 k)
      refine x_iald (Wf := WK cB cI cJ cZ cQ q) hx hb hK hP ((ta + 22) + 2) 1 (wkSw hta.s) rfl (by omega) (by decide) dX5_readHas_38 (fun z19 hz19 => ?_)
      have rz19 : (-2147483648 : Int) ≤ z19 ∧ z19 ≤ 2147483647 := by rw [hz19]; exact irSw hta.s hI
      have gz19 := Hd.mk hz19
      have hz19 : z19 = A ((ta + 22) + 2) (z11).toNat := hz19.trans (a17 _)
      refine lv_bipush (v := iI 10) hx hb dX5_readHas_39 (by decide +kernel) ?_
      refine lv_icmp_ge (tgt := 50) hx hb dX5_readHas_41 (by decide) (fun c20 => ?_) (fun c20 => ?_)
      · have c20 : 10 ≤ z19 := (i_le ⟨by decide, by decide⟩ rz19).mp c20
        refine lv_aload_n hx hb dX5_readHas_50 rfl (lv_at hl 3 rfl) ?_
        refine va_get (D := (dC, dI)) (ci := 9) (v := .ref (q (ta + 22))) (C := RX9) (T := TX9) (N := 16) hx hb hts hiX9 hown hK hP ta (wkT hta) rfl 14 (by decide) (hts _ (List.mem_cons_of_mem _ (wk_in_8 _ (List.mem_of_getElem? (i := 32) rfl)))) (fun _ h9 => h9) rfl dX5_readHas_51 ?_
        refine va_get (D := (dC, dI)) (ci := 6) (v := .ref (q ((ta + 22) + 2))) (C := RX6) (T := TX6) (N := 4) hx hb hts hiX6 hown hK hP (ta + 22) (wkS hta.s) rfl 1 (by decide) (hts _ (List.mem_cons_of_mem _ (wk_in_8 _ (List.mem_of_getElem? (i := 33) rfl)))) (fun _ h9 => h9) rfl dX5_readHas_54 ?_
        refine lv_iload_n hx hb dX5_readHas_57 rfl (lv_at hl 0 rfl) ?_
        refine lv_iload_n hx hb dX5_readHas_58 rfl (lv_at hl 1 rfl) ?_
        refine k_iast (Wf := WK cB cI cJ cZ cQ q) hx hb hK hP hDD hS ((ta + 22) + 2) 1 (wkSw hta.s) rfl (by omega) (by decide) dX5_readHas_59 (wsSw hta.s) (fun H locs A21 hA21 hP hS => ?_)
        have hI := isSw hta.s hA21 hI (show (-2147483648 : Int) ≤ z1 ∧ z1 ≤ 2147483647 from (rb hw3 (by decide) (by decide)))
        refine lv_iconst (v := iI 1) hx hb dX5_readHas_60 (by decide +kernel) ?_
        exact RET 1 _ _ _ _ _ ⟨hk1 _ _ (u_d_X5_readHas_1 ⟨gI15.out, ⟨f14, (Or.inl ⟨c16, ⟨z19, gz19.out, (Or.inl ⟨c20, ⟨A21, hA21, ⟨rfl, rfl⟩⟩⟩)⟩⟩)⟩⟩), hI, fk.da (fk.trans (fk.trans (fk.rf) hf4 rfl rfl) hj12 rfl rfl) hA21 (isS.b2 (o := fun b => List.contains [34, 43, 75, 106] (b + 2)) hta.s rfl rfl rfl rfl), ⟨by decide, by decide⟩⟩ hP hS dX5_readHas_61
      · have c20 : ¬ 10 ≤ z19 := mt (i_le ⟨by decide, by decide⟩ rz19).mpr c20
        refine lv_aload_n hx hb dX5_readHas_44 rfl (lv_at hl 2 rfl) ?_
        refine lv_iconst (v := iI 3) hx hb dX5_readHas_45 (by decide +kernel) ?_
        refine k_calli (As := [.int (iI 3)]) (rest := []) ⟨hx, hb, hml, hown, hts⟩ hE (kc_X5_bad l dC dI cB cI cJ cZ cQ aL aS q _ 3 hI ⟨by decide, by decide⟩) (cwV 1 hts (goodVk (wk_in_5 _ (List.mem_of_getElem? (i := 37) rfl)) (wk_in_5 _ (List.mem_of_getElem? (i := 38) rfl)) (wk_in_5 _ (List.mem_of_getElem? (i := 39) rfl)) (wk_in_5 _ (List.mem_of_getElem? (i := 28) rfl)) (wk_in_5 _ (List.mem_of_getElem? (i := 40) rfl))) rfl rfl rfl (by decide +kernel) ⟨Nat.le_of_ble_eq_true rfl, Nat.le_of_ble_eq_true rfl⟩) hK hDD hA0 hP hS 3 5 (wkRD) rfl rfl hl.1 (Nat.le_of_ble_eq_true rfl) dX5_readHas_46 (fun z22 A23 H locs hw24 hP hS => ?_)
        have ghw24 : q_X5_bad 3 A13 z22 A23 := hw24
        obtain ⟨_, hI, hf25, hw24⟩ := hw24
        have rz22 : 0 ≤ z22 ∧ z22 ≤ 1 := hw24.1
        have hw24 := hw24.2
        exact RET z22 _ _ _ _ _ ⟨hk1 _ _ (u_d_X5_readHas_1 ⟨gI15.out, ⟨f14, (Or.inl ⟨c16, ⟨z19, gz19.out, (Or.inr ⟨c20, ⟨z22, A23, ghw24, ⟨rfl, rfl⟩⟩⟩)⟩⟩)⟩⟩), hI, fk.trans (fk.trans (fk.trans (fk.rf) hf4 rfl rfl) hj12 rfl rfl) hf25 rfl rfl, rz22⟩ hP hS dX5_readHas_49
    · have c16 : z11 = (-1) := (i_eq (rb f14 (by decide) (by decide)) ⟨by decide, by decide⟩).mp c16
      refine lv_iconst (v := iI 0) hx hb dX5_readHas_28 (by decide +kernel) ?_
      exact RET 0 _ _ _ _ _ ⟨hk1 _ _ (u_d_X5_readHas_1 ⟨gI15.out, ⟨f14, (Or.inr ⟨c16, ⟨rfl, rfl⟩⟩)⟩⟩), hI, fk.trans (fk.trans (fk.rf) hf4 rfl rfl) hj12 rfl rfl, ⟨by decide, by decide⟩⟩ hP hS dX5_readHas_29
  refine lv_icmp_ne (tgt := 16) hx hb dX5_readHas_9 (by decide) (fun c5 => ?_) (fun c5 => ?_)
  · have c5 : ¬ z1 = (-1) := mt (i_eq (rb hw3 (by decide) (by decide)) ⟨by decide, by decide⟩).mpr c5
    refine lv_aload_n hx hb dX5_readHas_16 rfl (lv_at hl 1 rfl) ?_
    refine lv_aload_n hx hb dX5_readHas_17 rfl (lv_at hl 2 rfl) ?_
    refine lv_iconst (v := iI 2) hx hb dX5_readHas_18 (by decide +kernel) ?_
    refine k_calli (As := [.ref (q ta), .int (iI 2)]) (rest := []) ⟨hx, hb, hml, hown, hts⟩ hE (kc_X5_asked_2_2 l dC dI cB cI cJ cZ cQ aL aS q _ ta hI hta) (cwV 2 hts (goodVk (wk_in_6 _ (List.mem_of_getElem? (i := 6) rfl)) (wk_in_6 _ (List.mem_of_getElem? (i := 7) rfl)) (wk_in_6 _ (List.mem_of_getElem? (i := 8) rfl)) (wk_in_5 _ (List.mem_of_getElem? (i := 28) rfl)) (wk_in_6 _ (List.mem_of_getElem? (i := 9) rfl))) rfl rfl rfl (by decide +kernel) ⟨Nat.le_of_ble_eq_true rfl, Nat.le_of_ble_eq_true rfl⟩) hK hDD hA0 hP hS 3 5 (wkRD) rfl rfl hl.1 (Nat.le_of_ble_eq_true rfl) dX5_readHas_19 (fun z7 A8 H locs hw9 hP hS => ?_)
    have ghw9 : q_X5_asked_2_2 ta A2 z7 A8 := hw9
    obtain ⟨_, hI, hf10, hw9⟩ := hw9
    exact J22_6 z7 _ _ _ _ (by omega) (fun zq uq hq => (u_r_X5_readHas ⟨z1, A2, ghw3, (Or.inl ⟨c5, ⟨z7, A8, ghw9, hq⟩⟩)⟩)) hI (fk.trans (fk.rf) hf10 rfl rfl) hP hS (lv_sub hl [0, 1, 2] rfl)
  · have c5 : z1 = (-1) := (i_eq (rb hw3 (by decide) (by decide)) ⟨by decide, by decide⟩).mp c5
    refine lv_iconst (v := iI (-1)) hx hb dX5_readHas_12 (by decide +kernel) ?_
    refine lv_goto (tgt := 22) hx hb dX5_readHas_13 (by decide) ?_
    exact J22_6 (-1) _ _ _ _ (by omega) (fun zq uq hq => (u_r_X5_readHas ⟨z1, A2, ghw3, (Or.inr ⟨c5, hq⟩)⟩)) hI (fk.rf) hP hS (lv_sub hl [0, 1, 2] rfl)

abbrev tr_r_X8_add (ta : Nat) (x1 : Int) (A : St) (z : Int) (u : St) : Prop := ((((A ta 2) < 1600) ∧ (∃ A4 : St, A4 = stA A (ta + 1) ((A ta 2)).toNat x1 ∧ (∃ A6 : St, A6 = stA A4 ta 2 ((A ta 2) + 1) ∧ (z = 1 ∧ u = A6)))) ∨ ((¬ (A ta 2) < 1600) ∧ (z = 0 ∧ u = A)))
def r_X8_add (ta : Nat) (x1 : Int) (A : St) (z : Int) (u : St) : Prop := tr_r_X8_add ta x1 A z u
theorem u_r_X8_add {ta : Nat} {x1 : Int} {A : St} {z : Int} {u : St} (h : tr_r_X8_add ta x1 A z u) : r_X8_add ta x1 A z u := h
def q_X8_add (ta : Nat) (x1 : Int) (A : St) (z : Int) (u : St) : Prop := r_X8_add ta x1 A z u ∧ IK u ∧ fk [71, 102] [(70, 2), (101, 2)] A u ∧ (0 ≤ z ∧ z ≤ 1)
def ws_kc_X8_add : List Cond := .code yX8_add cX8_add 2 (some .boolean) :: WY
set_option maxHeartbeats 4000000 in
set_option maxRecDepth 100000 in
theorem kc_X8_add (l : Launch) (dC : Nat → ClassId) (dI : Nat → Nat → Nat) (cB cI cJ cZ cQ : ClassId) (aL aS : Nat) (q : Nat → Nat) (A : St) (ta : Nat) (x1 : Int) (hI : IK A) (hta : isE ta) (hx1 : (-2147483648 : Int) ≤ x1 ∧ x1 ≤ 2147483647) : KMi l yX8_add ws_kc_X8_add ({ frames := 0, cells := 0, slots := 0, locals := 0 } : Room) aL aS (dC, dI) (tyA cB cI cJ cZ cQ) (WK cB cI cJ cZ cQ q) A [.ref (q ta), .int (iI x1)] (fun z u => r_X8_add ta x1 A z u ∧ IK u ∧ fk [71, 102] [(70, 2), (101, 2)] A u ∧ (0 ≤ z ∧ z ≤ 1)) := by
  refine k_metz (cc := cX8_add) (maxL := 2) WK_adr (plainFor_of_name (by decide +kernel)) rfl (Nat.le_of_ble_eq_true rfl) (fun z u h => h.2.2.2) (fun p e s m below meth c Q AS ls hx hb hml hown hts hK hDD hA0 hE RET H locs hP hS hl => ?_)
  have hown : s.vm.findClass RX8 = some m.cls := hown
  have hl : lv_has ls 2 [(0, .ref (q ta)), (1, .int (iI x1))] := hl
  have hiX8 : ∀ w ∈ u_ws RX8 TX8 3, w ∈ ws_kc_X8_add := fun w h => List.mem_cons_of_mem _ (wy_layX8 w h)
  refine lv_aload_n hx hb dX8_add_0 rfl (lv_at hl 0 rfl) ?_
  have r1 : (0 : Int) ≤ (A ta 2) ∧ (A ta 2) ≤ 1600 := irE_2 hta hI
  refine va_get (D := (dC, dI)) (ci := 8) (v := .int (iI (A ta 2))) (C := RX8) (T := TX8) (N := 3) hx hb hts hiX8 hown hK hP ta (wkE hta) rfl 2 (by decide) (hts _ (List.mem_cons_of_mem _ (wk_in_1 _ (List.mem_of_getElem? (i := 40) rfl)))) (fun _ h9 => h9) rfl dX8_add_1 ?_
  refine lv_if_lt (tgt := 17) hx hb dX8_add_4 (by decide) (fun c2 => False.elim (by have c2 : (A ta 2) < 0 := (i_lt0 (rb r1 (by decide) (by decide))).mp c2; omega)) (fun _ => ?_)
  refine lv_aload_n hx hb dX8_add_7 rfl (lv_at hl 0 rfl) ?_
  refine va_get (D := (dC, dI)) (ci := 8) (v := .int (iI (A ta 2))) (C := RX8) (T := TX8) (N := 3) hx hb hts hiX8 hown hK hP ta (wkE hta) rfl 2 (by decide) (hts _ (List.mem_cons_of_mem _ (wk_in_1 _ (List.mem_of_getElem? (i := 40) rfl)))) (fun _ h9 => h9) rfl dX8_add_8 ?_
  refine lv_sipush (v := iI 1600) hx hb dX8_add_11 (by decide +kernel) ?_
  refine lv_icmp_lt (tgt := 19) hx hb dX8_add_14 (by decide) (fun c3 => ?_) (fun c3 => ?_)
  · have c3 : (A ta 2) < 1600 := (i_lt (rb r1 (by decide) (by decide)) ⟨by decide, by decide⟩).mp c3
    refine lv_aload_n hx hb dX8_add_19 rfl (lv_at hl 0 rfl) ?_
    refine va_get (D := (dC, dI)) (ci := 8) (v := .ref (q (ta + 1))) (C := RX8) (T := TX8) (N := 3) hx hb hts hiX8 hown hK hP ta (wkE hta) rfl 0 (by decide) (hts _ (List.mem_cons_of_mem _ (wk_in_1 _ (List.mem_of_getElem? (i := 41) rfl)))) (fun _ h9 => h9) rfl dX8_add_20 ?_
    refine lv_aload_n hx hb dX8_add_23 rfl (lv_at hl 0 rfl) ?_
    refine va_get (D := (dC, dI)) (ci := 8) (v := .int (iI (A ta 2))) (C := RX8) (T := TX8) (N := 3) hx hb hts hiX8 hown hK hP ta (wkE hta) rfl 2 (by decide) (hts _ (List.mem_cons_of_mem _ (wk_in_1 _ (List.mem_of_getElem? (i := 40) rfl)))) (fun _ h9 => h9) rfl dX8_add_24 ?_
    refine lv_iload_n hx hb dX8_add_27 rfl (lv_at hl 1 rfl) ?_
    refine k_iast (Wf := WK cB cI cJ cZ cQ q) hx hb hK hP hDD hS (ta + 1) 1 (wkEc hta) rfl (by omega) (by decide) dX8_add_28 (wsEc hta) (fun H locs A4 hA4 hP hS => ?_)
    have hI := isEc hta hA4 hI (show (-2147483648 : Int) ≤ x1 ∧ x1 ≤ 2147483647 from hx1)
    refine lv_aload_n hx hb dX8_add_29 rfl (lv_at hl 0 rfl) ?_
    refine lv_dup hx hb dX8_add_30 rfl ?_
    have e5 : A4 ta 2 = (A ta 2) := (rd_ne hA4 (by omega) 2)
    refine va_get (D := (dC, dI)) (ci := 8) (v := .int (iI (A4 ta 2))) (C := RX8) (T := TX8) (N := 3) hx hb hts hiX8 hown hK hP ta (wkE hta) rfl 2 (by decide) (hts _ (List.mem_cons_of_mem _ (wk_in_1 _ (List.mem_of_getElem? (i := 40) rfl)))) (fun _ h9 => h9) rfl dX8_add_31 ?_
    refine tp_i (y := iI (A ta 2)) (congrArg iI e5) ?_
    refine lv_iconst (v := iI 1) hx hb dX8_add_34 (by decide +kernel) ?_
    refine x_addv (v := (A ta 2) + 1) hx hb dX8_add_35 (by omega) ?_
    refine k_put (Wf := WK cB cI cJ cZ cQ q) (D := (dC, dI)) (ci := 8) (v := .int (iI ((A ta 2) + 1))) (ty := .int) (C := RX8) (T := TX8) (N := 3) hx hb hts hiX8 tyX8 tyX8_ok nmX8 hown hK hP hDD hS ta (wkE hta) rfl 2 (by decide) (hts _ (List.mem_cons_of_mem _ (wk_in_1 _ (List.mem_of_getElem? (i := 40) rfl)))) (fun _ h9 => h9) rfl (by decide +kernel) rfl rfl (Nat.le_of_ble_eq_true rfl) dX8_add_36 (wfE_2 hta (v := (A ta 2) + 1)) (fun H locs A6 hA6 hP hS => ?_)
    have hI := isE_2 hta hA6 hI (show (0 : Int) ≤ (A ta 2) + 1 ∧ (A ta 2) + 1 ≤ 1600 from (by omega))
    refine lv_iconst (v := iI 1) hx hb dX8_add_39 (by decide +kernel) ?_
    exact RET 1 _ _ _ _ _ ⟨(u_r_X8_add (Or.inl ⟨c3, ⟨A4, hA4, ⟨A6, hA6, ⟨rfl, rfl⟩⟩⟩⟩)), hI, fk.df (fk.da (fk.rf) hA4 (isE.b2 (o := fun b => List.contains [71, 102] (b + 1)) hta rfl rfl)) hA6 (isE.b2 (o := fun b => fin2 [(70, 2), (101, 2)] b 2) hta rfl rfl), ⟨by decide, by decide⟩⟩ hP hS dX8_add_40
  · have c3 : ¬ (A ta 2) < 1600 := mt (i_lt (rb r1 (by decide) (by decide)) ⟨by decide, by decide⟩).mpr c3
    refine lv_iconst (v := iI 0) hx hb dX8_add_17 (by decide +kernel) ?_
    exact RET 0 _ _ _ _ _ ⟨(u_r_X8_add (Or.inr ⟨c3, ⟨rfl, rfl⟩⟩)), hI, fk.rf, ⟨by decide, by decide⟩⟩ hP hS dX8_add_18

abbrev tr_r_X5_passesSign (x1 : Int) (A : St) (z : Int) (u : St) : Prop := (∃ A1 : St, q_X3_look A A1 ∧ (∃ z4 : Int, q_X3_isSign x1 A1 z4 ∧ (((¬ z4 = 0) ∧ (∃ A8 : St, q_X3_pass A1 A8 ∧ (z = 1 ∧ u = A8))) ∨ ((z4 = 0) ∧ (z = 0 ∧ u = A1)))))
def r_X5_passesSign (x1 : Int) (A : St) (z : Int) (u : St) : Prop := tr_r_X5_passesSign x1 A z u
theorem u_r_X5_passesSign {x1 : Int} {A : St} {z : Int} {u : St} (h : tr_r_X5_passesSign x1 A z u) : r_X5_passesSign x1 A z u := h
def q_X5_passesSign (x1 : Int) (A : St) (z : Int) (u : St) : Prop := r_X5_passesSign x1 A z u ∧ IK u ∧ fk [] [(5, 1), (5, 2), (5, 3), (5, 4), (5, 5), (5, 6)] A u ∧ (0 ≤ z ∧ z ≤ 1)
def ws_kc_X5_passesSign : List Cond := .code yX5_passesSign cX5_passesSign 2 (some .boolean) :: WY
set_option maxHeartbeats 4000000 in
set_option maxRecDepth 100000 in
theorem kc_X5_passesSign (l : Launch) (dC : Nat → ClassId) (dI : Nat → Nat → Nat) (cB cI cJ cZ cQ : ClassId) (aL aS : Nat) (q : Nat → Nat) (A : St) (x1 : Int) (hI : IK A) (hx1 : (0 : Int) ≤ x1 ∧ x1 ≤ 65535) : KMi l yX5_passesSign ws_kc_X5_passesSign ({ frames := 2, cells := 0, slots := 0, locals := 45 } : Room) aL aS (dC, dI) (tyA cB cI cJ cZ cQ) (WK cB cI cJ cZ cQ q) A [.ref (q 3), .int (iI x1)] (fun z u => r_X5_passesSign x1 A z u ∧ IK u ∧ fk [] [(5, 1), (5, 2), (5, 3), (5, 4), (5, 5), (5, 6)] A u ∧ (0 ≤ z ∧ z ≤ 1)) := by
  refine k_metz (cc := cX5_passesSign) (maxL := 2) WK_adr (plainFor_of_name (by decide +kernel)) rfl (Nat.le_of_ble_eq_true rfl) (fun z u h => h.2.2.2) (fun p e s m below meth c Q AS ls hx hb hml hown hts hK hDD hA0 hE RET H locs hP hS hl => ?_)
  have hown : s.vm.findClass RX5 = some m.cls := hown
  have hl : lv_has ls 2 [(0, .ref (q 3)), (1, .int (iI x1))] := hl
  have hiX5 : ∀ w ∈ u_ws RX5 TX5 5, w ∈ ws_kc_X5_passesSign := fun w h => List.mem_cons_of_mem _ (wy_layX5 w h)
  refine lv_aload_n hx hb dX5_passesSign_0 rfl (lv_at hl 0 rfl) ?_
  refine va_get (D := (dC, dI)) (ci := 5) (v := .ref (q 5)) (C := RX5) (T := TX5) (N := 5) hx hb hts hiX5 hown hK hP 3 (wkRD) rfl 0 (by decide) (hts _ (List.mem_cons_of_mem _ (wk_in_5 _ (List.mem_of_getElem? (i := 6) rfl)))) (fun _ h9 => h9) rfl dX5_passesSign_1 ?_
  refine k_callv (As := []) (rest := []) ⟨hx, hb, hml, hown, hts⟩ hE (kc_X3_look l dC dI cB cI cJ cZ cQ aL aS q _ hI) (cwV 0 hts (goodVk (wk_in_5 _ (List.mem_of_getElem? (i := 22) rfl)) (wk_in_5 _ (List.mem_of_getElem? (i := 23) rfl)) (wk_in_5 _ (List.mem_of_getElem? (i := 24) rfl)) (wk_in_4 _ (List.mem_of_getElem? (i := 10) rfl)) (wk_in_4 _ (List.mem_of_getElem? (i := 2) rfl))) rfl rfl rfl (by decide +kernel) ⟨Nat.le_of_ble_eq_true rfl, Nat.le_of_ble_eq_true rfl⟩) hK hDD hA0 hP hS 5 3 (wkLX) rfl rfl hl.1 (Nat.le_of_ble_eq_true rfl) dX5_passesSign_4 (fun A1 H locs hw2 hP hS => ?_)
  have ghw2 : q_X3_look A A1 := hw2
  obtain ⟨_, hI, hf3, hw2⟩ := hw2
  clear hw2
  refine lv_aload_n hx hb dX5_passesSign_7 rfl (lv_at hl 0 rfl) ?_
  refine va_get (D := (dC, dI)) (ci := 5) (v := .ref (q 5)) (C := RX5) (T := TX5) (N := 5) hx hb hts hiX5 hown hK hP 3 (wkRD) rfl 0 (by decide) (hts _ (List.mem_cons_of_mem _ (wk_in_5 _ (List.mem_of_getElem? (i := 6) rfl)))) (fun _ h9 => h9) rfl dX5_passesSign_8 ?_
  refine lv_iload_n hx hb dX5_passesSign_11 rfl (lv_at hl 1 rfl) ?_
  refine k_calli (As := [.int (iI x1)]) (rest := []) ⟨hx, hb, hml, hown, hts⟩ hE (kc_X3_isSign l dC dI cB cI cJ cZ cQ aL aS q _ x1 hI hx1) (cwV 1 hts (goodVk (wk_in_7 _ (List.mem_of_getElem? (i := 46) rfl)) (wk_in_7 _ (List.mem_of_getElem? (i := 47) rfl)) (wk_in_7 _ (List.mem_of_getElem? (i := 48) rfl)) (wk_in_4 _ (List.mem_of_getElem? (i := 10) rfl)) (wk_in_3 _ (List.mem_of_getElem? (i := 59) rfl))) rfl rfl rfl (by decide +kernel) ⟨Nat.le_of_ble_eq_true rfl, Nat.le_of_ble_eq_true rfl⟩) hK hDD hA0 hP hS 5 3 (wkLX) rfl rfl hl.1 (Nat.le_of_ble_eq_true rfl) dX5_passesSign_12 (fun z4 A5 H locs hw6 hP hS => ?_)
  obtain ⟨rfl, hw6⟩ := hw6
  have ghw6 : q_X3_isSign x1 A1 z4 := hw6
  have hw6 := hw6.2
  refine lv_if_ne (tgt := 20) hx hb dX5_passesSign_15 (by decide) (fun c7 => ?_) (fun c7 => ?_)
  · have c7 : ¬ z4 = 0 := mt (i_eq0 (rb hw6 (by decide) (by decide))).mpr c7
    refine lv_aload_n hx hb dX5_passesSign_20 rfl (lv_at hl 0 rfl) ?_
    refine va_get (D := (dC, dI)) (ci := 5) (v := .ref (q 5)) (C := RX5) (T := TX5) (N := 5) hx hb hts hiX5 hown hK hP 3 (wkRD) rfl 0 (by decide) (hts _ (List.mem_cons_of_mem _ (wk_in_5 _ (List.mem_of_getElem? (i := 6) rfl)))) (fun _ h9 => h9) rfl dX5_passesSign_21 ?_
    refine k_callv (As := []) (rest := []) ⟨hx, hb, hml, hown, hts⟩ hE (kc_X3_pass l dC dI cB cI cJ cZ cQ aL aS q _ hI) (cwV 0 hts (goodVk (wk_in_5 _ (List.mem_of_getElem? (i := 42) rfl)) (wk_in_5 _ (List.mem_of_getElem? (i := 43) rfl)) (wk_in_5 _ (List.mem_of_getElem? (i := 44) rfl)) (wk_in_4 _ (List.mem_of_getElem? (i := 10) rfl)) (wk_in_3 _ (List.mem_of_getElem? (i := 58) rfl))) rfl rfl rfl (by decide +kernel) ⟨Nat.le_of_ble_eq_true rfl, Nat.le_of_ble_eq_true rfl⟩) hK hDD hA0 hP hS 5 3 (wkLX) rfl rfl hl.1 (Nat.le_of_ble_eq_true rfl) dX5_passesSign_24 (fun A8 H locs hw9 hP hS => ?_)
    have ghw9 : q_X3_pass A1 A8 := hw9
    obtain ⟨_, hI, hf10, hw9⟩ := hw9
    clear hw9
    refine lv_iconst (v := iI 1) hx hb dX5_passesSign_27 (by decide +kernel) ?_
    exact RET 1 _ _ _ _ _ ⟨(u_r_X5_passesSign ⟨A1, ghw2, ⟨z4, ghw6, (Or.inl ⟨c7, ⟨A8, ghw9, ⟨rfl, rfl⟩⟩⟩)⟩⟩), hI, fk.trans (fk.trans (fk.rf) hf3 rfl rfl) hf10 rfl rfl, ⟨by decide, by decide⟩⟩ hP hS dX5_passesSign_28
  · have c7 : z4 = 0 := (i_eq0 (rb hw6 (by decide) (by decide))).mp c7
    refine lv_iconst (v := iI 0) hx hb dX5_passesSign_18 (by decide +kernel) ?_
    exact RET 0 _ _ _ _ _ ⟨(u_r_X5_passesSign ⟨A1, ghw2, ⟨z4, ghw6, (Or.inr ⟨c7, ⟨rfl, rfl⟩⟩)⟩⟩), hI, fk.trans (fk.rf) hf3 rfl rfl, ⟨by decide, by decide⟩⟩ hP hS dX5_passesSign_19

abbrev tr_r_X5_enter (A : St) (z : Int) (u : St) : Prop := ((((A 3 4) < 8) ∧ (∃ A3 : St, A3 = stA A 3 4 ((A 3 4) + 1) ∧ (z = 1 ∧ u = A3))) ∨ ((¬ (A 3 4) < 8) ∧ (∃ z5 : Int, ∃ A6 : St, q_X5_bad 5 A z5 A6 ∧ (z = z5 ∧ u = A6))))
def r_X5_enter (A : St) (z : Int) (u : St) : Prop := tr_r_X5_enter A z u
theorem u_r_X5_enter {A : St} {z : Int} {u : St} (h : tr_r_X5_enter A z u) : r_X5_enter A z u := h
def q_X5_enter (A : St) (z : Int) (u : St) : Prop := r_X5_enter A z u ∧ IK u ∧ fk [] [(3, 2), (3, 3), (3, 4)] A u ∧ ((0 ≤ z ∧ z ≤ 1) ∧ (z = 1 → u 3 4 = A 3 4 + 1 ∧ A 3 4 + 1 ≤ 8))
def ws_kc_X5_enter : List Cond := .code yX5_enter cX5_enter 1 (some .boolean) :: WY
set_option maxHeartbeats 4000000 in
set_option maxRecDepth 100000 in
theorem kc_X5_enter (l : Launch) (dC : Nat → ClassId) (dI : Nat → Nat → Nat) (cB cI cJ cZ cQ : ClassId) (aL aS : Nat) (q : Nat → Nat) (A : St) (hI : IK A) : KMi l yX5_enter ws_kc_X5_enter ({ frames := 1, cells := 0, slots := 0, locals := 21 } : Room) aL aS (dC, dI) (tyA cB cI cJ cZ cQ) (WK cB cI cJ cZ cQ q) A [.ref (q 3)] (fun z u => r_X5_enter A z u ∧ IK u ∧ fk [] [(3, 2), (3, 3), (3, 4)] A u ∧ ((0 ≤ z ∧ z ≤ 1) ∧ (z = 1 → u 3 4 = A 3 4 + 1 ∧ A 3 4 + 1 ≤ 8))) := by
  refine k_metz (cc := cX5_enter) (maxL := 1) WK_adr (plainFor_of_name (by decide +kernel)) rfl (Nat.le_of_ble_eq_true rfl) (fun z u h => h.2.2.2.1) (fun p e s m below meth c Q AS ls hx hb hml hown hts hK hDD hA0 hE RET H locs hP hS hl => ?_)
  have hown : s.vm.findClass RX5 = some m.cls := hown
  have hl : lv_has ls 1 [(0, .ref (q 3))] := hl
  have hiX5 : ∀ w ∈ u_ws RX5 TX5 5, w ∈ ws_kc_X5_enter := fun w h => List.mem_cons_of_mem _ (wy_layX5 w h)
  refine lv_aload_n hx hb dX5_enter_0 rfl (lv_at hl 0 rfl) ?_
  have r1 : (0 : Int) ≤ (A 3 4) ∧ (A 3 4) ≤ 8 := irRD_4 hI
  refine va_get (D := (dC, dI)) (ci := 5) (v := .int (iI (A 3 4))) (C := RX5) (T := TX5) (N := 5) hx hb hts hiX5 hown hK hP 3 (wkRD) rfl 4 (by decide) (hts _ (List.mem_cons_of_mem _ (wk_in_7 _ (List.mem_of_getElem? (i := 25) rfl)))) (fun _ h9 => h9) rfl dX5_enter_1 ?_
  refine lv_bipush (v := iI 8) hx hb dX5_enter_4 (by decide +kernel) ?_
  refine lv_icmp_lt (tgt := 15) hx hb dX5_enter_6 (by decide) (fun c2 => ?_) (fun c2 => ?_)
  · have c2 : (A 3 4) < 8 := (i_lt (rb r1 (by decide) (by decide)) ⟨by decide, by decide⟩).mp c2
    refine lv_aload_n hx hb dX5_enter_15 rfl (lv_at hl 0 rfl) ?_
    refine lv_dup hx hb dX5_enter_16 rfl ?_
    refine va_get (D := (dC, dI)) (ci := 5) (v := .int (iI (A 3 4))) (C := RX5) (T := TX5) (N := 5) hx hb hts hiX5 hown hK hP 3 (wkRD) rfl 4 (by decide) (hts _ (List.mem_cons_of_mem _ (wk_in_7 _ (List.mem_of_getElem? (i := 25) rfl)))) (fun _ h9 => h9) rfl dX5_enter_17 ?_
    refine lv_iconst (v := iI 1) hx hb dX5_enter_20 (by decide +kernel) ?_
    refine x_addv (v := (A 3 4) + 1) hx hb dX5_enter_21 (by omega) ?_
    refine k_put (Wf := WK cB cI cJ cZ cQ q) (D := (dC, dI)) (ci := 5) (v := .int (iI ((A 3 4) + 1))) (ty := .int) (C := RX5) (T := TX5) (N := 5) hx hb hts hiX5 tyX5 tyX5_ok nmX5 hown hK hP hDD hS 3 (wkRD) rfl 4 (by decide) (hts _ (List.mem_cons_of_mem _ (wk_in_7 _ (List.mem_of_getElem? (i := 25) rfl)))) (fun _ h9 => h9) rfl (by decide +kernel) rfl rfl (Nat.le_of_ble_eq_true rfl) dX5_enter_22 (wfRD_4 (v := (A 3 4) + 1)) (fun H locs A3 hA3 hP hS => ?_)
    have hI := isRD_4 hA3 hI (show (0 : Int) ≤ (A 3 4) + 1 ∧ (A 3 4) + 1 ≤ 8 from (by omega))
    refine lv_iconst (v := iI 1) hx hb dX5_enter_25 (by decide +kernel) ?_
    have e4 : A3 3 4 = (A 3 4) + 1 := rd_is hA3
    exact RET 1 _ _ _ _ _ ⟨(u_r_X5_enter (Or.inl ⟨c2, ⟨A3, hA3, ⟨rfl, rfl⟩⟩⟩)), hI, fk.df (fk.rf) hA3 rfl, by omega⟩ hP hS dX5_enter_26
  · have c2 : ¬ (A 3 4) < 8 := mt (i_lt (rb r1 (by decide) (by decide)) ⟨by decide, by decide⟩).mpr c2
    refine lv_aload_n hx hb dX5_enter_9 rfl (lv_at hl 0 rfl) ?_
    refine lv_iconst (v := iI 5) hx hb dX5_enter_10 (by decide +kernel) ?_
    refine k_calli (As := [.int (iI 5)]) (rest := []) ⟨hx, hb, hml, hown, hts⟩ hE (kc_X5_bad l dC dI cB cI cJ cZ cQ aL aS q _ 5 hI ⟨by decide, by decide⟩) (cwV 1 hts (goodVk (wk_in_5 _ (List.mem_of_getElem? (i := 37) rfl)) (wk_in_5 _ (List.mem_of_getElem? (i := 38) rfl)) (wk_in_5 _ (List.mem_of_getElem? (i := 39) rfl)) (wk_in_5 _ (List.mem_of_getElem? (i := 28) rfl)) (wk_in_5 _ (List.mem_of_getElem? (i := 40) rfl))) rfl rfl rfl (by decide +kernel) ⟨Nat.le_of_ble_eq_true rfl, Nat.le_of_ble_eq_true rfl⟩) hK hDD hA0 hP hS 3 5 (wkRD) rfl rfl hl.1 (Nat.le_of_ble_eq_true rfl) dX5_enter_11 (fun z5 A6 H locs hw7 hP hS => ?_)
    have ghw7 : q_X5_bad 5 A z5 A6 := hw7
    obtain ⟨_, hI, hf8, hw7⟩ := hw7
    have rz5 : 0 ≤ z5 ∧ z5 ≤ 1 := hw7.1
    have hw7 := hw7.2
    have e9 : A6 3 4 = (A 3 4) := (hf8 3 4 rfl rfl)
    exact RET z5 _ _ _ _ _ ⟨(u_r_X5_enter (Or.inr ⟨c2, ⟨z5, A6, ghw7, ⟨rfl, rfl⟩⟩⟩)), hI, fk.trans (fk.rf) hf8 rfl rfl, by omega⟩ hP hS dX5_enter_14

abbrev tr_r_X5_leave (A : St) (z : Int) (u : St) : Prop := (∃ A2 : St, A2 = stA A 3 4 ((A 3 4) - 1) ∧ (z = 1 ∧ u = A2))
def r_X5_leave (A : St) (z : Int) (u : St) : Prop := tr_r_X5_leave A z u
theorem u_r_X5_leave {A : St} {z : Int} {u : St} (h : tr_r_X5_leave A z u) : r_X5_leave A z u := h
def q_X5_leave (A : St) (z : Int) (u : St) : Prop := r_X5_leave A z u ∧ IK u ∧ fk [] [(3, 4)] A u ∧ ((0 ≤ z ∧ z ≤ 1) ∧ (z = 1 ∧ u 3 4 = A 3 4 - 1))
def ws_kc_X5_leave : List Cond := .code yX5_leave cX5_leave 1 (some .boolean) :: WY
set_option maxHeartbeats 4000000 in
set_option maxRecDepth 100000 in
theorem kc_X5_leave (l : Launch) (dC : Nat → ClassId) (dI : Nat → Nat → Nat) (cB cI cJ cZ cQ : ClassId) (aL aS : Nat) (q : Nat → Nat) (A : St) (hI : IK A) (hp0 : 1 ≤ A 3 4) : KMi l yX5_leave ws_kc_X5_leave ({ frames := 0, cells := 0, slots := 0, locals := 0 } : Room) aL aS (dC, dI) (tyA cB cI cJ cZ cQ) (WK cB cI cJ cZ cQ q) A [.ref (q 3)] (fun z u => r_X5_leave A z u ∧ IK u ∧ fk [] [(3, 4)] A u ∧ ((0 ≤ z ∧ z ≤ 1) ∧ (z = 1 ∧ u 3 4 = A 3 4 - 1))) := by
  refine k_metz (cc := cX5_leave) (maxL := 1) WK_adr (plainFor_of_name (by decide +kernel)) rfl (Nat.le_of_ble_eq_true rfl) (fun z u h => h.2.2.2.1) (fun p e s m below meth c Q AS ls hx hb hml hown hts hK hDD hA0 hE RET H locs hP hS hl => ?_)
  have hown : s.vm.findClass RX5 = some m.cls := hown
  have hl : lv_has ls 1 [(0, .ref (q 3))] := hl
  have hiX5 : ∀ w ∈ u_ws RX5 TX5 5, w ∈ ws_kc_X5_leave := fun w h => List.mem_cons_of_mem _ (wy_layX5 w h)
  refine lv_aload_n hx hb dX5_leave_0 rfl (lv_at hl 0 rfl) ?_
  refine lv_dup hx hb dX5_leave_1 rfl ?_
  have r1 : (0 : Int) ≤ (A 3 4) ∧ (A 3 4) ≤ 8 := irRD_4 hI
  refine va_get (D := (dC, dI)) (ci := 5) (v := .int (iI (A 3 4))) (C := RX5) (T := TX5) (N := 5) hx hb hts hiX5 hown hK hP 3 (wkRD) rfl 4 (by decide) (hts _ (List.mem_cons_of_mem _ (wk_in_7 _ (List.mem_of_getElem? (i := 25) rfl)))) (fun _ h9 => h9) rfl dX5_leave_2 ?_
  refine lv_iconst (v := iI 1) hx hb dX5_leave_5 (by decide +kernel) ?_
  refine x_subv (v := (A 3 4) - 1) hx hb dX5_leave_6 (by omega) ?_
  refine k_put (Wf := WK cB cI cJ cZ cQ q) (D := (dC, dI)) (ci := 5) (v := .int (iI ((A 3 4) - 1))) (ty := .int) (C := RX5) (T := TX5) (N := 5) hx hb hts hiX5 tyX5 tyX5_ok nmX5 hown hK hP hDD hS 3 (wkRD) rfl 4 (by decide) (hts _ (List.mem_cons_of_mem _ (wk_in_7 _ (List.mem_of_getElem? (i := 25) rfl)))) (fun _ h9 => h9) rfl (by decide +kernel) rfl rfl (Nat.le_of_ble_eq_true rfl) dX5_leave_7 (wfRD_4 (v := (A 3 4) - 1)) (fun H locs A2 hA2 hP hS => ?_)
  have hI := isRD_4 hA2 hI (show (0 : Int) ≤ (A 3 4) - 1 ∧ (A 3 4) - 1 ≤ 8 from (by omega))
  refine lv_iconst (v := iI 1) hx hb dX5_leave_10 (by decide +kernel) ?_
  have e3 : A2 3 4 = (A 3 4) - 1 := rd_is hA2
  exact RET 1 _ _ _ _ _ ⟨(u_r_X5_leave ⟨A2, hA2, ⟨rfl, rfl⟩⟩), hI, fk.df (fk.rf) hA2 rfl, by omega⟩ hP hS dX5_leave_11

abbrev tr_r_X5_comparisonSign (A : St) (z : Int) (u : St) : Prop := (∃ A1 : St, q_X3_look A A1 ∧ (∃ z4 : Int, q_X3_isSign 60 A1 z4 ∧ (((z4 = 0) ∧ (∃ z8 : Int, q_X3_isSign 62 A1 z8 ∧ (((z8 = 0) ∧ (∃ z12 : Int, q_X3_isSign 61 A1 z12 ∧ (((z12 = 0) ∧ (∃ z16 : Int, ∃ A17 : St, q_X5_bad 1 A1 z16 A17 ∧ (∃ A20 : St, q_X3_pass A17 A20 ∧ (z = (-1) ∧ u = A20)))) ∨ ((¬ z12 = 0) ∧ (∃ A23 : St, q_X3_pass A1 A23 ∧ (z = (-11) ∧ u = A23)))))) ∨ ((¬ z8 = 0) ∧ (∃ A26 : St, q_X3_pass A1 A26 ∧ (z = (-10) ∧ u = A26)))))) ∨ ((¬ z4 = 0) ∧ (∃ A29 : St, q_X3_pass A1 A29 ∧ (z = (-9) ∧ u = A29))))))
def r_X5_comparisonSign (A : St) (z : Int) (u : St) : Prop := tr_r_X5_comparisonSign A z u
theorem u_r_X5_comparisonSign {A : St} {z : Int} {u : St} (h : tr_r_X5_comparisonSign A z u) : r_X5_comparisonSign A z u := h
def q_X5_comparisonSign (A : St) (z : Int) (u : St) : Prop := r_X5_comparisonSign A z u ∧ IK u ∧ fk [] [(3, 2), (3, 3), (5, 1), (5, 2), (5, 3), (5, 4), (5, 5), (5, 6)] A u ∧ (-2147483648 ≤ z ∧ z ≤ 2147483647)
def ws_kc_X5_comparisonSign : List Cond := .code yX5_comparisonSign cX5_comparisonSign 2 (some .int) :: WY
set_option maxHeartbeats 4000000 in
set_option maxRecDepth 100000 in
theorem kc_X5_comparisonSign (l : Launch) (dC : Nat → ClassId) (dI : Nat → Nat → Nat) (cB cI cJ cZ cQ : ClassId) (aL aS : Nat) (q : Nat → Nat) (A : St) (hI : IK A) : KMi l yX5_comparisonSign ws_kc_X5_comparisonSign ({ frames := 2, cells := 0, slots := 0, locals := 45 } : Room) aL aS (dC, dI) (tyA cB cI cJ cZ cQ) (WK cB cI cJ cZ cQ q) A [.ref (q 3)] (fun z u => r_X5_comparisonSign A z u ∧ IK u ∧ fk [] [(3, 2), (3, 3), (5, 1), (5, 2), (5, 3), (5, 4), (5, 5), (5, 6)] A u ∧ (-2147483648 ≤ z ∧ z ≤ 2147483647)) := by
  refine k_meti (cc := cX5_comparisonSign) (maxL := 2) WK_adr (plainFor_of_name (by decide +kernel)) rfl (Nat.le_of_ble_eq_true rfl) (fun p e s m below meth c Q AS ls hx hb hml hown hts hK hDD hA0 hE RET H locs hP hS hl => ?_)
  have hown : s.vm.findClass RX5 = some m.cls := hown
  have hl : lv_has ls 2 [(0, .ref (q 3))] := hl
  have hiX5 : ∀ w ∈ u_ws RX5 TX5 5, w ∈ ws_kc_X5_comparisonSign := fun w h => List.mem_cons_of_mem _ (wy_layX5 w h)
  refine lv_aload_n hx hb dX5_comparisonSign_0 rfl (lv_at hl 0 rfl) ?_
  refine va_get (D := (dC, dI)) (ci := 5) (v := .ref (q 5)) (C := RX5) (T := TX5) (N := 5) hx hb hts hiX5 hown hK hP 3 (wkRD) rfl 0 (by decide) (hts _ (List.mem_cons_of_mem _ (wk_in_5 _ (List.mem_of_getElem? (i := 6) rfl)))) (fun _ h9 => h9) rfl dX5_comparisonSign_1 ?_
  refine k_callv (As := []) (rest := []) ⟨hx, hb, hml, hown, hts⟩ hE (kc_X3_look l dC dI cB cI cJ cZ cQ aL aS q _ hI) (cwV 0 hts (goodVk (wk_in_5 _ (List.mem_of_getElem? (i := 22) rfl)) (wk_in_5 _ (List.mem_of_getElem? (i := 23) rfl)) (wk_in_5 _ (List.mem_of_getElem? (i := 24) rfl)) (wk_in_4 _ (List.mem_of_getElem? (i := 10) rfl)) (wk_in_4 _ (List.mem_of_getElem? (i := 2) rfl))) rfl rfl rfl (by decide +kernel) ⟨Nat.le_of_ble_eq_true rfl, Nat.le_of_ble_eq_true rfl⟩) hK hDD hA0 hP hS 5 3 (wkLX) rfl rfl hl.1 (Nat.le_of_ble_eq_true rfl) dX5_comparisonSign_4 (fun A1 H locs hw2 hP hS => ?_)
  have ghw2 : q_X3_look A A1 := hw2
  obtain ⟨_, hI, hf3, hw2⟩ := hw2
  clear hw2
  refine lv_iconst (v := iI (-1)) hx hb dX5_comparisonSign_7 (by decide +kernel) ?_
  refine lv_istore_n (lv' := [(1, .int (iI (-1))), (0, .ref (q 3))]) hx hb dX5_comparisonSign_8 rfl hl (by decide) rfl (fun ls hl => ?_)
  refine lv_aload_n hx hb dX5_comparisonSign_9 rfl (lv_at hl 1 rfl) ?_
  refine va_get (D := (dC, dI)) (ci := 5) (v := .ref (q 5)) (C := RX5) (T := TX5) (N := 5) hx hb hts hiX5 hown hK hP 3 (wkRD) rfl 0 (by decide) (hts _ (List.mem_cons_of_mem _ (wk_in_5 _ (List.mem_of_getElem? (i := 6) rfl)))) (fun _ h9 => h9) rfl dX5_comparisonSign_10 ?_
  refine lv_bipush (v := iI 60) hx hb dX5_comparisonSign_13 (by decide +kernel) ?_
  refine k_calli (As := [.int (iI 60)]) (rest := []) ⟨hx, hb, hml, hown, hts⟩ hE (kc_X3_isSign l dC dI cB cI cJ cZ cQ aL aS q _ 60 hI ⟨by decide, by decide⟩) (cwV 1 hts (goodVk (wk_in_7 _ (List.mem_of_getElem? (i := 46) rfl)) (wk_in_7 _ (List.mem_of_getElem? (i := 47) rfl)) (wk_in_7 _ (List.mem_of_getElem? (i := 48) rfl)) (wk_in_4 _ (List.mem_of_getElem? (i := 10) rfl)) (wk_in_3 _ (List.mem_of_getElem? (i := 59) rfl))) rfl rfl rfl (by decide +kernel) ⟨Nat.le_of_ble_eq_true rfl, Nat.le_of_ble_eq_true rfl⟩) hK hDD hA0 hP hS 5 3 (wkLX) rfl rfl hl.1 (Nat.le_of_ble_eq_true rfl) dX5_comparisonSign_15 (fun z4 A5 H locs hw6 hP hS => ?_)
  obtain ⟨rfl, hw6⟩ := hw6
  have ghw6 : q_X3_isSign 60 A1 z4 := hw6
  have hw6 := hw6.2
  refine lv_if_eq (tgt := 27) hx hb dX5_comparisonSign_18 (by decide) (fun c7 => ?_) (fun c7 => ?_)
  · have c7 : z4 = 0 := (i_eq0 (rb hw6 (by decide) (by decide))).mp c7
    refine lv_aload_n hx hb dX5_comparisonSign_27 rfl (lv_at hl 1 rfl) ?_
    refine va_get (D := (dC, dI)) (ci := 5) (v := .ref (q 5)) (C := RX5) (T := TX5) (N := 5) hx hb hts hiX5 hown hK hP 3 (wkRD) rfl 0 (by decide) (hts _ (List.mem_cons_of_mem _ (wk_in_5 _ (List.mem_of_getElem? (i := 6) rfl)))) (fun _ h9 => h9) rfl dX5_comparisonSign_28 ?_
    refine lv_bipush (v := iI 62) hx hb dX5_comparisonSign_31 (by decide +kernel) ?_
    refine k_calli (As := [.int (iI 62)]) (rest := []) ⟨hx, hb, hml, hown, hts⟩ hE (kc_X3_isSign l dC dI cB cI cJ cZ cQ aL aS q _ 62 hI ⟨by decide, by decide⟩) (cwV 1 hts (goodVk (wk_in_7 _ (List.mem_of_getElem? (i := 46) rfl)) (wk_in_7 _ (List.mem_of_getElem? (i := 47) rfl)) (wk_in_7 _ (List.mem_of_getElem? (i := 48) rfl)) (wk_in_4 _ (List.mem_of_getElem? (i := 10) rfl)) (wk_in_3 _ (List.mem_of_getElem? (i := 59) rfl))) rfl rfl rfl (by decide +kernel) ⟨Nat.le_of_ble_eq_true rfl, Nat.le_of_ble_eq_true rfl⟩) hK hDD hA0 hP hS 5 3 (wkLX) rfl rfl hl.1 (Nat.le_of_ble_eq_true rfl) dX5_comparisonSign_33 (fun z8 A9 H locs hw10 hP hS => ?_)
    obtain ⟨rfl, hw10⟩ := hw10
    have ghw10 : q_X3_isSign 62 A1 z8 := hw10
    have hw10 := hw10.2
    refine lv_if_eq (tgt := 45) hx hb dX5_comparisonSign_36 (by decide) (fun c11 => ?_) (fun c11 => ?_)
    · have c11 : z8 = 0 := (i_eq0 (rb hw10 (by decide) (by decide))).mp c11
      refine lv_aload_n hx hb dX5_comparisonSign_45 rfl (lv_at hl 1 rfl) ?_
      refine va_get (D := (dC, dI)) (ci := 5) (v := .ref (q 5)) (C := RX5) (T := TX5) (N := 5) hx hb hts hiX5 hown hK hP 3 (wkRD) rfl 0 (by decide) (hts _ (List.mem_cons_of_mem _ (wk_in_5 _ (List.mem_of_getElem? (i := 6) rfl)))) (fun _ h9 => h9) rfl dX5_comparisonSign_46 ?_
      refine lv_bipush (v := iI 61) hx hb dX5_comparisonSign_49 (by decide +kernel) ?_
      refine k_calli (As := [.int (iI 61)]) (rest := []) ⟨hx, hb, hml, hown, hts⟩ hE (kc_X3_isSign l dC dI cB cI cJ cZ cQ aL aS q _ 61 hI ⟨by decide, by decide⟩) (cwV 1 hts (goodVk (wk_in_7 _ (List.mem_of_getElem? (i := 46) rfl)) (wk_in_7 _ (List.mem_of_getElem? (i := 47) rfl)) (wk_in_7 _ (List.mem_of_getElem? (i := 48) rfl)) (wk_in_4 _ (List.mem_of_getElem? (i := 10) rfl)) (wk_in_3 _ (List.mem_of_getElem? (i := 59) rfl))) rfl rfl rfl (by decide +kernel) ⟨Nat.le_of_ble_eq_true rfl, Nat.le_of_ble_eq_true rfl⟩) hK hDD hA0 hP hS 5 3 (wkLX) rfl rfl hl.1 (Nat.le_of_ble_eq_true rfl) dX5_comparisonSign_51 (fun z12 A13 H locs hw14 hP hS => ?_)
      obtain ⟨rfl, hw14⟩ := hw14
      have ghw14 : q_X3_isSign 61 A1 z12 := hw14
      have hw14 := hw14.2
      refine lv_if_eq (tgt := 63) hx hb dX5_comparisonSign_54 (by decide) (fun c15 => ?_) (fun c15 => ?_)
      · have c15 : z12 = 0 := (i_eq0 (rb hw14 (by decide) (by decide))).mp c15
        refine lv_aload_n hx hb dX5_comparisonSign_63 rfl (lv_at hl 1 rfl) ?_
        refine lv_iconst (v := iI 1) hx hb dX5_comparisonSign_64 (by decide +kernel) ?_
        refine k_calli (As := [.int (iI 1)]) (rest := []) ⟨hx, hb, hml, hown, hts⟩ hE (kc_X5_bad l dC dI cB cI cJ cZ cQ aL aS q _ 1 hI ⟨by decide, by decide⟩) (cwV 1 hts (goodVk (wk_in_5 _ (List.mem_of_getElem? (i := 37) rfl)) (wk_in_5 _ (List.mem_of_getElem? (i := 38) rfl)) (wk_in_5 _ (List.mem_of_getElem? (i := 39) rfl)) (wk_in_5 _ (List.mem_of_getElem? (i := 28) rfl)) (wk_in_5 _ (List.mem_of_getElem? (i := 40) rfl))) rfl rfl rfl (by decide +kernel) ⟨Nat.le_of_ble_eq_true rfl, Nat.le_of_ble_eq_true rfl⟩) hK hDD hA0 hP hS 3 5 (wkRD) rfl rfl hl.1 (Nat.le_of_ble_eq_true rfl) dX5_comparisonSign_65 (fun z16 A17 H locs hw18 hP hS => ?_)
        have ghw18 : q_X5_bad 1 A1 z16 A17 := hw18
        obtain ⟨_, hI, hf19, hw18⟩ := hw18
        have rz16 : 0 ≤ z16 ∧ z16 ≤ 1 := hw18.1
        have hw18 := hw18.2
        refine lv_pop hx hb dX5_comparisonSign_68 rfl ?_
        refine lv_aload_n hx hb dX5_comparisonSign_69 rfl (lv_at hl 1 rfl) ?_
        refine va_get (D := (dC, dI)) (ci := 5) (v := .ref (q 5)) (C := RX5) (T := TX5) (N := 5) hx hb hts hiX5 hown hK hP 3 (wkRD) rfl 0 (by decide) (hts _ (List.mem_cons_of_mem _ (wk_in_5 _ (List.mem_of_getElem? (i := 6) rfl)))) (fun _ h9 => h9) rfl dX5_comparisonSign_70 ?_
        refine k_callv (As := []) (rest := []) ⟨hx, hb, hml, hown, hts⟩ hE (kc_X3_pass l dC dI cB cI cJ cZ cQ aL aS q _ hI) (cwV 0 hts (goodVk (wk_in_5 _ (List.mem_of_getElem? (i := 42) rfl)) (wk_in_5 _ (List.mem_of_getElem? (i := 43) rfl)) (wk_in_5 _ (List.mem_of_getElem? (i := 44) rfl)) (wk_in_4 _ (List.mem_of_getElem? (i := 10) rfl)) (wk_in_3 _ (List.mem_of_getElem? (i := 58) rfl))) rfl rfl rfl (by decide +kernel) ⟨Nat.le_of_ble_eq_true rfl, Nat.le_of_ble_eq_true rfl⟩) hK hDD hA0 hP hS 5 3 (wkLX) rfl rfl hl.1 (Nat.le_of_ble_eq_true rfl) dX5_comparisonSign_73 (fun A20 H locs hw21 hP hS => ?_)
        have ghw21 : q_X3_pass A17 A20 := hw21
        obtain ⟨_, hI, hf22, hw21⟩ := hw21
        clear hw21
        refine lv_iload_n hx hb dX5_comparisonSign_76 rfl (lv_at hl 0 rfl) ?_
        exact RET (-1) _ _ _ _ _ ⟨(u_r_X5_comparisonSign ⟨A1, ghw2, ⟨z4, ghw6, (Or.inl ⟨c7, ⟨z8, ghw10, (Or.inl ⟨c11, ⟨z12, ghw14, (Or.inl ⟨c15, ⟨z16, A17, ghw18, ⟨A20, ghw21, ⟨rfl, rfl⟩⟩⟩⟩)⟩⟩)⟩⟩)⟩⟩), hI, fk.trans (fk.trans (fk.trans (fk.rf) hf3 rfl rfl) hf19 rfl rfl) hf22 rfl rfl, ⟨by decide, by decide⟩⟩ hP hS dX5_comparisonSign_77
      · have c15 : ¬ z12 = 0 := mt (i_eq0 (rb hw14 (by decide) (by decide))).mpr c15
        refine lv_bipush (v := iI (-11)) hx hb dX5_comparisonSign_57 (by decide +kernel) ?_
        refine lv_istore_n (lv' := [(1, .int (iI (-11))), (0, .ref (q 3))]) hx hb dX5_comparisonSign_59 rfl hl (by decide) rfl (fun ls hl => ?_)
        refine lv_goto (tgt := 69) hx hb dX5_comparisonSign_60 (by decide) ?_
        refine lv_aload_n hx hb dX5_comparisonSign_69 rfl (lv_at hl 1 rfl) ?_
        refine va_get (D := (dC, dI)) (ci := 5) (v := .ref (q 5)) (C := RX5) (T := TX5) (N := 5) hx hb hts hiX5 hown hK hP 3 (wkRD) rfl 0 (by decide) (hts _ (List.mem_cons_of_mem _ (wk_in_5 _ (List.mem_of_getElem? (i := 6) rfl)))) (fun _ h9 => h9) rfl dX5_comparisonSign_70 ?_
        refine k_callv (As := []) (rest := []) ⟨hx, hb, hml, hown, hts⟩ hE (kc_X3_pass l dC dI cB cI cJ cZ cQ aL aS q _ hI) (cwV 0 hts (goodVk (wk_in_5 _ (List.mem_of_getElem? (i := 42) rfl)) (wk_in_5 _ (List.mem_of_getElem? (i := 43) rfl)) (wk_in_5 _ (List.mem_of_getElem? (i := 44) rfl)) (wk_in_4 _ (List.mem_of_getElem? (i := 10) rfl)) (wk_in_3 _ (List.mem_of_getElem? (i := 58) rfl))) rfl rfl rfl (by decide +kernel) ⟨Nat.le_of_ble_eq_true rfl, Nat.le_of_ble_eq_true rfl⟩) hK hDD hA0 hP hS 5 3 (wkLX) rfl rfl hl.1 (Nat.le_of_ble_eq_true rfl) dX5_comparisonSign_73 (fun A23 H locs hw24 hP hS => ?_)
        have ghw24 : q_X3_pass A1 A23 := hw24
        obtain ⟨_, hI, hf25, hw24⟩ := hw24
        clear hw24
        refine lv_iload_n hx hb dX5_comparisonSign_76 rfl (lv_at hl 0 rfl) ?_
        exact RET (-11) _ _ _ _ _ ⟨(u_r_X5_comparisonSign ⟨A1, ghw2, ⟨z4, ghw6, (Or.inl ⟨c7, ⟨z8, ghw10, (Or.inl ⟨c11, ⟨z12, ghw14, (Or.inr ⟨c15, ⟨A23, ghw24, ⟨rfl, rfl⟩⟩⟩)⟩⟩)⟩⟩)⟩⟩), hI, fk.trans (fk.trans (fk.rf) hf3 rfl rfl) hf25 rfl rfl, ⟨by decide, by decide⟩⟩ hP hS dX5_comparisonSign_77
    · have c11 : ¬ z8 = 0 := mt (i_eq0 (rb hw10 (by decide) (by decide))).mpr c11
      refine lv_bipush (v := iI (-10)) hx hb dX5_comparisonSign_39 (by decide +kernel) ?_
      refine lv_istore_n (lv' := [(1, .int (iI (-10))), (0, .ref (q 3))]) hx hb dX5_comparisonSign_41 rfl hl (by decide) rfl (fun ls hl => ?_)
      refine lv_goto (tgt := 69) hx hb dX5_comparisonSign_42 (by decide) ?_
      refine lv_aload_n hx hb dX5_comparisonSign_69 rfl (lv_at hl 1 rfl) ?_
      refine va_get (D := (dC, dI)) (ci := 5) (v := .ref (q 5)) (C := RX5) (T := TX5) (N := 5) hx hb hts hiX5 hown hK hP 3 (wkRD) rfl 0 (by decide) (hts _ (List.mem_cons_of_mem _ (wk_in_5 _ (List.mem_of_getElem? (i := 6) rfl)))) (fun _ h9 => h9) rfl dX5_comparisonSign_70 ?_
      refine k_callv (As := []) (rest := []) ⟨hx, hb, hml, hown, hts⟩ hE (kc_X3_pass l dC dI cB cI cJ cZ cQ aL aS q _ hI) (cwV 0 hts (goodVk (wk_in_5 _ (List.mem_of_getElem? (i := 42) rfl)) (wk_in_5 _ (List.mem_of_getElem? (i := 43) rfl)) (wk_in_5 _ (List.mem_of_getElem? (i := 44) rfl)) (wk_in_4 _ (List.mem_of_getElem? (i := 10) rfl)) (wk_in_3 _ (List.mem_of_getElem? (i := 58) rfl))) rfl rfl rfl (by decide +kernel) ⟨Nat.le_of_ble_eq_true rfl, Nat.le_of_ble_eq_true rfl⟩) hK hDD hA0 hP hS 5 3 (wkLX) rfl rfl hl.1 (Nat.le_of_ble_eq_true rfl) dX5_comparisonSign_73 (fun A26 H locs hw27 hP hS => ?_)
      have ghw27 : q_X3_pass A1 A26 := hw27
      obtain ⟨_, hI, hf28, hw27⟩ := hw27
      clear hw27
      refine lv_iload_n hx hb dX5_comparisonSign_76 rfl (lv_at hl 0 rfl) ?_
      exact RET (-10) _ _ _ _ _ ⟨(u_r_X5_comparisonSign ⟨A1, ghw2, ⟨z4, ghw6, (Or.inl ⟨c7, ⟨z8, ghw10, (Or.inr ⟨c11, ⟨A26, ghw27, ⟨rfl, rfl⟩⟩⟩)⟩⟩)⟩⟩), hI, fk.trans (fk.trans (fk.rf) hf3 rfl rfl) hf28 rfl rfl, ⟨by decide, by decide⟩⟩ hP hS dX5_comparisonSign_77
  · have c7 : ¬ z4 = 0 := mt (i_eq0 (rb hw6 (by decide) (by decide))).mpr c7
    refine lv_bipush (v := iI (-9)) hx hb dX5_comparisonSign_21 (by decide +kernel) ?_
    refine lv_istore_n (lv' := [(1, .int (iI (-9))), (0, .ref (q 3))]) hx hb dX5_comparisonSign_23 rfl hl (by decide) rfl (fun ls hl => ?_)
    refine lv_goto (tgt := 69) hx hb dX5_comparisonSign_24 (by decide) ?_
    refine lv_aload_n hx hb dX5_comparisonSign_69 rfl (lv_at hl 1 rfl) ?_
    refine va_get (D := (dC, dI)) (ci := 5) (v := .ref (q 5)) (C := RX5) (T := TX5) (N := 5) hx hb hts hiX5 hown hK hP 3 (wkRD) rfl 0 (by decide) (hts _ (List.mem_cons_of_mem _ (wk_in_5 _ (List.mem_of_getElem? (i := 6) rfl)))) (fun _ h9 => h9) rfl dX5_comparisonSign_70 ?_
    refine k_callv (As := []) (rest := []) ⟨hx, hb, hml, hown, hts⟩ hE (kc_X3_pass l dC dI cB cI cJ cZ cQ aL aS q _ hI) (cwV 0 hts (goodVk (wk_in_5 _ (List.mem_of_getElem? (i := 42) rfl)) (wk_in_5 _ (List.mem_of_getElem? (i := 43) rfl)) (wk_in_5 _ (List.mem_of_getElem? (i := 44) rfl)) (wk_in_4 _ (List.mem_of_getElem? (i := 10) rfl)) (wk_in_3 _ (List.mem_of_getElem? (i := 58) rfl))) rfl rfl rfl (by decide +kernel) ⟨Nat.le_of_ble_eq_true rfl, Nat.le_of_ble_eq_true rfl⟩) hK hDD hA0 hP hS 5 3 (wkLX) rfl rfl hl.1 (Nat.le_of_ble_eq_true rfl) dX5_comparisonSign_73 (fun A29 H locs hw30 hP hS => ?_)
    have ghw30 : q_X3_pass A1 A29 := hw30
    obtain ⟨_, hI, hf31, hw30⟩ := hw30
    clear hw30
    refine lv_iload_n hx hb dX5_comparisonSign_76 rfl (lv_at hl 0 rfl) ?_
    exact RET (-9) _ _ _ _ _ ⟨(u_r_X5_comparisonSign ⟨A1, ghw2, ⟨z4, ghw6, (Or.inr ⟨c7, ⟨A29, ghw30, ⟨rfl, rfl⟩⟩⟩)⟩⟩), hI, fk.trans (fk.trans (fk.rf) hf3 rfl rfl) hf31 rfl rfl, ⟨by decide, by decide⟩⟩ hP hS dX5_comparisonSign_77

abbrev tr_r_X9_addBar (ta : Nat) (x1 : Int) (x2 : Int) (x3 : Int) (A : St) (z : Int) (u : St) : Prop := (∃ z1 : Int, z1 = A (ta + 1) (7 : Int).toNat ∧ (((z1 < 6) ∧ (∃ A4 : St, A4 = stA A (ta + 16) (z1).toNat x1 ∧ (∃ A5 : St, A5 = stA A4 (ta + 17) (z1).toNat x2 ∧ (∃ A6 : St, A6 = stA A5 (ta + 18) (z1).toNat x3 ∧ (∃ A11 : St, A11 = stA A6 (ta + 1) (7 : Int).toNat (z1 + 1) ∧ (z = 1 ∧ u = A11)))))) ∨ ((¬ z1 < 6) ∧ (z = 0 ∧ u = A))))
def r_X9_addBar (ta : Nat) (x1 : Int) (x2 : Int) (x3 : Int) (A : St) (z : Int) (u : St) : Prop := tr_r_X9_addBar ta x1 x2 x3 A z u
theorem u_r_X9_addBar {ta : Nat} {x1 : Int} {x2 : Int} {x3 : Int} {A : St} {z : Int} {u : St} (h : tr_r_X9_addBar ta x1 x2 x3 A z u) : r_X9_addBar ta x1 x2 x3 A z u := h
def q_X9_addBar (ta : Nat) (x1 : Int) (x2 : Int) (x3 : Int) (A : St) (z : Int) (u : St) : Prop := r_X9_addBar ta x1 x2 x3 A z u ∧ IK u ∧ fk [52, 67, 68, 69, 83, 98, 99, 100] [] A u ∧ (0 ≤ z ∧ z ≤ 1)
def ws_kc_X9_addBar : List Cond := .code yX9_addBar cX9_addBar 5 (some .boolean) :: WY
set_option maxHeartbeats 4000000 in
set_option maxRecDepth 100000 in
theorem kc_X9_addBar (l : Launch) (dC : Nat → ClassId) (dI : Nat → Nat → Nat) (cB cI cJ cZ cQ : ClassId) (aL aS : Nat) (q : Nat → Nat) (A : St) (ta : Nat) (x1 x2 x3 : Int) (hI : IK A) (hta : isT ta) (hx1 : (-2147483648 : Int) ≤ x1 ∧ x1 ≤ 2147483647) (hx2 : (-2147483648 : Int) ≤ x2 ∧ x2 ≤ 2147483647) (hx3 : (-2147483648 : Int) ≤ x3 ∧ x3 ≤ 2147483647) : KMi l yX9_addBar ws_kc_X9_addBar ({ frames := 0, cells := 0, slots := 0, locals := 0 } : Room) aL aS (dC, dI) (tyA cB cI cJ cZ cQ) (WK cB cI cJ cZ cQ q) A [.ref (q ta), .int (iI x1), .int (iI x2), .int (iI x3)] (fun z u => r_X9_addBar ta x1 x2 x3 A z u ∧ IK u ∧ fk [52, 67, 68, 69, 83, 98, 99, 100] [] A u ∧ (0 ≤ z ∧ z ≤ 1)) := by
  refine k_metz (cc := cX9_addBar) (maxL := 5) WK_adr (plainFor_of_name (by decide +kernel)) rfl (Nat.le_of_ble_eq_true rfl) (fun z u h => h.2.2.2) (fun p e s m below meth c Q AS ls hx hb hml hown hts hK hDD hA0 hE RET H locs hP hS hl => ?_)
  have hown : s.vm.findClass RX9 = some m.cls := hown
  have hl : lv_has ls 5 [(0, .ref (q ta)), (1, .int (iI x1)), (2, .int (iI x2)), (3, .int (iI x3))] := hl
  have hiX9 : ∀ w ∈ u_ws RX9 TX9 16, w ∈ ws_kc_X9_addBar := fun w h => List.mem_cons_of_mem _ (wy_layX9 w h)
  refine lv_aload_n hx hb dX9_addBar_0 rfl (lv_at hl 0 rfl) ?_
  refine va_get (D := (dC, dI)) (ci := 9) (v := .ref (q (ta + 1))) (C := RX9) (T := TX9) (N := 16) hx hb hts hiX9 hown hK hP ta (wkT hta) rfl 0 (by decide) (hts _ (List.mem_cons_of_mem _ (wk_in_0 _ (List.mem_of_getElem? (i := 8) rfl)))) (fun _ h9 => h9) rfl dX9_addBar_1 ?_
  refine lv_bipush (v := iI 7) hx hb dX9_addBar_4 (by decide +kernel) ?_
  refine x_iald (Wf := WK cB cI cJ cZ cQ q) hx hb hK hP (ta + 1) 1 (wkTc hta) rfl (by decide) (by decide) dX9_addBar_6 (fun z1 hz1 => ?_)
  have rz1 : (0 : Int) ≤ z1 ∧ z1 ≤ 6 := by rw [hz1]; exact irTc7 hta hI
  have gz1 := Hd.mk hz1
  refine lv_istore (lv' := [(4, .int (iI z1)), (0, .ref (q ta)), (1, .int (iI x1)), (2, .int (iI x2)), (3, .int (iI x3))]) hx hb dX9_addBar_7 hl (by decide) rfl (fun ls hl => ?_)
  refine lv_iload hx hb dX9_addBar_9 (lv_at hl 0 rfl) ?_
  refine lv_if_lt (tgt := 21) hx hb dX9_addBar_11 (by decide) (fun c2 => False.elim (by have c2 : z1 < 0 := (i_lt0 (rb rz1 (by decide) (by decide))).mp c2; omega)) (fun _ => ?_)
  refine lv_iload hx hb dX9_addBar_14 (lv_at hl 0 rfl) ?_
  refine lv_bipush (v := iI 6) hx hb dX9_addBar_16 (by decide +kernel) ?_
  refine lv_icmp_lt (tgt := 23) hx hb dX9_addBar_18 (by decide) (fun c3 => ?_) (fun c3 => ?_)
  · have c3 : z1 < 6 := (i_lt (rb rz1 (by decide) (by decide)) ⟨by decide, by decide⟩).mp c3
    refine lv_aload_n hx hb dX9_addBar_23 rfl (lv_at hl 1 rfl) ?_
    refine va_get (D := (dC, dI)) (ci := 9) (v := .ref (q (ta + 16))) (C := RX9) (T := TX9) (N := 16) hx hb hts hiX9 hown hK hP ta (wkT hta) rfl 10 (by decide) (hts _ (List.mem_cons_of_mem _ (wk_in_8 _ (List.mem_of_getElem? (i := 25) rfl)))) (fun _ h9 => h9) rfl dX9_addBar_24 ?_
    refine lv_iload hx hb dX9_addBar_27 (lv_at hl 0 rfl) ?_
    refine lv_iload_n hx hb dX9_addBar_29 rfl (lv_at hl 2 rfl) ?_
    refine k_iast (Wf := WK cB cI cJ cZ cQ q) hx hb hK hP hDD hS (ta + 16) 1 (wkTbd hta) rfl (by omega) (by decide) dX9_addBar_30 (wsTbd hta) (fun H locs A4 hA4 hP hS => ?_)
    have hI := isTbd hta hA4 hI (show (-2147483648 : Int) ≤ x1 ∧ x1 ≤ 2147483647 from hx1)
    refine lv_aload_n hx hb dX9_addBar_31 rfl (lv_at hl 1 rfl) ?_
    refine va_get (D := (dC, dI)) (ci := 9) (v := .ref (q (ta + 17))) (C := RX9) (T := TX9) (N := 16) hx hb hts hiX9 hown hK hP ta (wkT hta) rfl 11 (by decide) (hts _ (List.mem_cons_of_mem _ (wk_in_8 _ (List.mem_of_getElem? (i := 26) rfl)))) (fun _ h9 => h9) rfl dX9_addBar_32 ?_
    refine lv_iload hx hb dX9_addBar_35 (lv_at hl 0 rfl) ?_
    refine lv_iload_n hx hb dX9_addBar_37 rfl (lv_at hl 3 rfl) ?_
    refine k_iast (Wf := WK cB cI cJ cZ cQ q) hx hb hK hP hDD hS (ta + 17) 1 (wkTbf hta) rfl (by omega) (by decide) dX9_addBar_38 (wsTbf hta) (fun H locs A5 hA5 hP hS => ?_)
    have hI := isTbf hta hA5 hI (show (-2147483648 : Int) ≤ x2 ∧ x2 ≤ 2147483647 from hx2)
    refine lv_aload_n hx hb dX9_addBar_39 rfl (lv_at hl 1 rfl) ?_
    refine va_get (D := (dC, dI)) (ci := 9) (v := .ref (q (ta + 18))) (C := RX9) (T := TX9) (N := 16) hx hb hts hiX9 hown hK hP ta (wkT hta) rfl 12 (by decide) (hts _ (List.mem_cons_of_mem _ (wk_in_8 _ (List.mem_of_getElem? (i := 27) rfl)))) (fun _ h9 => h9) rfl dX9_addBar_40 ?_
    refine lv_iload hx hb dX9_addBar_43 (lv_at hl 0 rfl) ?_
    refine lv_iload_n hx hb dX9_addBar_45 rfl (lv_at hl 4 rfl) ?_
    refine k_iast (Wf := WK cB cI cJ cZ cQ q) hx hb hK hP hDD hS (ta + 18) 1 (wkTbt hta) rfl (by omega) (by decide) dX9_addBar_46 (wsTbt hta) (fun H locs A6 hA6 hP hS => ?_)
    have hI := isTbt hta hA6 hI (show (-2147483648 : Int) ≤ x3 ∧ x3 ≤ 2147483647 from hx3)
    refine lv_aload_n hx hb dX9_addBar_47 rfl (lv_at hl 1 rfl) ?_
    refine va_get (D := (dC, dI)) (ci := 9) (v := .ref (q (ta + 1))) (C := RX9) (T := TX9) (N := 16) hx hb hts hiX9 hown hK hP ta (wkT hta) rfl 0 (by decide) (hts _ (List.mem_cons_of_mem _ (wk_in_0 _ (List.mem_of_getElem? (i := 8) rfl)))) (fun _ h9 => h9) rfl dX9_addBar_48 ?_
    refine lv_bipush (v := iI 7) hx hb dX9_addBar_51 (by decide +kernel) ?_
    refine lv_dup2_11 hx hb dX9_addBar_53 rfl rfl ?_
    have a9 : ∀ k, A4 (ta + 1) k = A (ta + 1) k := fun k => rd_ne hA4 (by omega) k
    have a8 : ∀ k, A5 (ta + 1) k = A (ta + 1) k := fun k => (rd_ne hA5 (by omega) k).trans (a9 k)
    have a7 : ∀ k, A6 (ta + 1) k = A (ta + 1) k := fun k => (rd_ne hA6 (by omega) k).trans (a8 k)
    refine x_iald (Wf := WK cB cI cJ cZ cQ q) hx hb hK hP (ta + 1) 1 (wkTc hta) rfl (by decide) (by decide) dX9_addBar_54 (fun z10 hz10 => ?_)
    have rz10 : (0 : Int) ≤ z10 ∧ z10 ≤ 6 := by rw [hz10]; exact irTc7 hta hI
    have gz10 := Hd.mk hz10
    have hz10 : z10 = A (ta + 1) (7 : Int).toNat := hz10.trans (a7 _)
    have ez10 : z10 = z1 := hz10.trans hz1.symm
    refine tp_i (y := iI z1) (congrArg iI ez10) ?_
    refine lv_iconst (v := iI 1) hx hb dX9_addBar_55 (by decide +kernel) ?_
    refine x_addv (v := z1 + 1) hx hb dX9_addBar_56 (by omega) ?_
    refine k_iast (Wf := WK cB cI cJ cZ cQ q) hx hb hK hP hDD hS (ta + 1) 1 (wkTc hta) rfl (by decide) (by decide) dX9_addBar_57 (wsTc hta) (fun H locs A11 hA11 hP hS => ?_)
    have hI := isTc hta hA11 hI (show (0 : Int) ≤ z1 + 1 ∧ z1 + 1 ≤ 6 from (by omega))
    refine lv_iconst (v := iI 1) hx hb dX9_addBar_58 (by decide +kernel) ?_
    exact RET 1 _ _ _ _ _ ⟨(u_r_X9_addBar ⟨z1, gz1.out, (Or.inl ⟨c3, ⟨A4, hA4, ⟨A5, hA5, ⟨A6, hA6, ⟨A11, hA11, ⟨rfl, rfl⟩⟩⟩⟩⟩⟩)⟩), hI, fk.da (fk.da (fk.da (fk.da (fk.rf) hA4 (isT.b2 (o := fun b => List.contains [52, 67, 68, 69, 83, 98, 99, 100] (b + 16)) hta rfl rfl)) hA5 (isT.b2 (o := fun b => List.contains [52, 67, 68, 69, 83, 98, 99, 100] (b + 17)) hta rfl rfl)) hA6 (isT.b2 (o := fun b => List.contains [52, 67, 68, 69, 83, 98, 99, 100] (b + 18)) hta rfl rfl)) hA11 (isT.b2 (o := fun b => List.contains [52, 67, 68, 69, 83, 98, 99, 100] (b + 1)) hta rfl rfl), ⟨by decide, by decide⟩⟩ hP hS dX9_addBar_59
  · have c3 : ¬ z1 < 6 := mt (i_lt (rb rz1 (by decide) (by decide)) ⟨by decide, by decide⟩).mpr c3
    refine lv_iconst (v := iI 0) hx hb dX9_addBar_21 (by decide +kernel) ?_
    exact RET 0 _ _ _ _ _ ⟨(u_r_X9_addBar ⟨z1, gz1.out, (Or.inr ⟨c3, ⟨rfl, rfl⟩⟩)⟩), hI, fk.rf, ⟨by decide, by decide⟩⟩ hP hS dX9_addBar_22
theorem dX5_readTest_0 : decode cX5_readTest 0 = .ok (.aload_n 0, 1) := by decide +kernel
theorem dX5_readTest_1 : decode cX5_readTest 1 = .ok (.aload_n 1, 1) := by decide +kernel
theorem dX5_readTest_2 : decode cX5_readTest 2 = .ok (.invokevirtual 205, 3) := by decide +kernel
theorem dX5_readTest_5 : decode cX5_readTest 5 = .ok (.ifCond .ne 5, 3) := by decide +kernel
theorem dX5_readTest_8 : decode cX5_readTest 8 = .ok (.iconst 0, 1) := by decide +kernel
theorem dX5_readTest_9 : decode cX5_readTest 9 = .ok (.ireturn, 1) := by decide +kernel
theorem dX5_readTest_10 : decode cX5_readTest 10 = .ok (.iconst 0, 1) := by decide +kernel
theorem dX5_readTest_11 : decode cX5_readTest 11 = .ok (.istore_n 2, 1) := by decide +kernel
theorem dX5_readTest_12 : decode cX5_readTest 12 = .ok (.iload_n 2, 1) := by decide +kernel
theorem dX5_readTest_13 : decode cX5_readTest 13 = .ok (.sipush 1600, 3) := by decide +kernel
theorem dX5_readTest_16 : decode cX5_readTest 16 = .ok (.if_icmp .ge 37, 3) := by decide +kernel
theorem dX5_readTest_19 : decode cX5_readTest 19 = .ok (.aload_n 0, 1) := by decide +kernel
theorem dX5_readTest_20 : decode cX5_readTest 20 = .ok (.bipush 16, 2) := by decide +kernel
theorem dX5_readTest_22 : decode cX5_readTest 22 = .ok (.invokevirtual 208, 3) := by decide +kernel
theorem dX5_readTest_25 : decode cX5_readTest 25 = .ok (.ifCond .eq 28, 3) := by decide +kernel
theorem dX5_readTest_28 : decode cX5_readTest 28 = .ok (.aload_n 0, 1) := by decide +kernel
theorem dX5_readTest_29 : decode cX5_readTest 29 = .ok (.aload_n 1, 1) := by decide +kernel
theorem dX5_readTest_30 : decode cX5_readTest 30 = .ok (.invokevirtual 205, 3) := by decide +kernel
theorem dX5_readTest_33 : decode cX5_readTest 33 = .ok (.ifCond .eq 12, 3) := by decide +kernel
theorem dX5_readTest_36 : decode cX5_readTest 36 = .ok (.aload_n 1, 1) := by decide +kernel
theorem dX5_readTest_37 : decode cX5_readTest 37 = .ok (.bipush (-7), 2) := by decide +kernel
theorem dX5_readTest_39 : decode cX5_readTest 39 = .ok (.invokevirtual 211, 3) := by decide +kernel
theorem dX5_readTest_42 : decode cX5_readTest 42 = .ok (.ifCond .ne 5, 3) := by decide +kernel
theorem dX5_readTest_45 : decode cX5_readTest 45 = .ok (.iconst 0, 1) := by decide +kernel
theorem dX5_readTest_46 : decode cX5_readTest 46 = .ok (.ireturn, 1) := by decide +kernel
theorem dX5_readTest_47 : decode cX5_readTest 47 = .ok (.iinc 2 1, 3) := by decide +kernel
theorem dX5_readTest_50 : decode cX5_readTest 50 = .ok (.goto (-38), 3) := by decide +kernel
theorem dX5_readTest_53 : decode cX5_readTest 53 = .ok (.iconst 1, 1) := by decide +kernel
theorem dX5_readTest_54 : decode cX5_readTest 54 = .ok (.ireturn, 1) := by decide +kernel
theorem dX5_readBoth_0 : decode cX5_readBoth 0 = .ok (.aload_n 0, 1) := by decide +kernel
theorem dX5_readBoth_1 : decode cX5_readBoth 1 = .ok (.aload_n 1, 1) := by decide +kernel
theorem dX5_readBoth_2 : decode cX5_readBoth 2 = .ok (.invokevirtual 213, 3) := by decide +kernel
theorem dX5_readBoth_5 : decode cX5_readBoth 5 = .ok (.ifCond .ne 5, 3) := by decide +kernel
theorem dX5_readBoth_8 : decode cX5_readBoth 8 = .ok (.iconst 0, 1) := by decide +kernel
theorem dX5_readBoth_9 : decode cX5_readBoth 9 = .ok (.ireturn, 1) := by decide +kernel
theorem dX5_readBoth_10 : decode cX5_readBoth 10 = .ok (.iconst 0, 1) := by decide +kernel
theorem dX5_readBoth_11 : decode cX5_readBoth 11 = .ok (.istore_n 2, 1) := by decide +kernel
theorem dX5_readBoth_12 : decode cX5_readBoth 12 = .ok (.iload_n 2, 1) := by decide +kernel
theorem dX5_readBoth_13 : decode cX5_readBoth 13 = .ok (.sipush 1600, 3) := by decide +kernel
theorem dX5_readBoth_16 : decode cX5_readBoth 16 = .ok (.if_icmp .ge 37, 3) := by decide +kernel
theorem dX5_readBoth_19 : decode cX5_readBoth 19 = .ok (.aload_n 0, 1) := by decide +kernel
theorem dX5_readBoth_20 : decode cX5_readBoth 20 = .ok (.bipush 17, 2) := by decide +kernel
theorem dX5_readBoth_22 : decode cX5_readBoth 22 = .ok (.invokevirtual 208, 3) := by decide +kernel
theorem dX5_readBoth_25 : decode cX5_readBoth 25 = .ok (.ifCond .eq 28, 3) := by decide +kernel
theorem dX5_readBoth_28 : decode cX5_readBoth 28 = .ok (.aload_n 0, 1) := by decide +kernel
theorem dX5_readBoth_29 : decode cX5_readBoth 29 = .ok (.aload_n 1, 1) := by decide +kernel
theorem dX5_readBoth_30 : decode cX5_readBoth 30 = .ok (.invokevirtual 213, 3) := by decide +kernel
theorem dX5_readBoth_33 : decode cX5_readBoth 33 = .ok (.ifCond .eq 12, 3) := by decide +kernel
theorem dX5_readBoth_36 : decode cX5_readBoth 36 = .ok (.aload_n 1, 1) := by decide +kernel
theorem dX5_readBoth_37 : decode cX5_readBoth 37 = .ok (.bipush (-8), 2) := by decide +kernel
theorem dX5_readBoth_39 : decode cX5_readBoth 39 = .ok (.invokevirtual 211, 3) := by decide +kernel
theorem dX5_readBoth_42 : decode cX5_readBoth 42 = .ok (.ifCond .ne 5, 3) := by decide +kernel
theorem dX5_readBoth_45 : decode cX5_readBoth 45 = .ok (.iconst 0, 1) := by decide +kernel
theorem dX5_readBoth_46 : decode cX5_readBoth 46 = .ok (.ireturn, 1) := by decide +kernel
theorem dX5_readBoth_47 : decode cX5_readBoth 47 = .ok (.iinc 2 1, 3) := by decide +kernel
theorem dX5_readBoth_50 : decode cX5_readBoth 50 = .ok (.goto (-38), 3) := by decide +kernel
theorem dX5_readBoth_53 : decode cX5_readBoth 53 = .ok (.iconst 1, 1) := by decide +kernel
theorem dX5_readBoth_54 : decode cX5_readBoth 54 = .ok (.ireturn, 1) := by decide +kernel
theorem dX5_readFact_0 : decode cX5_readFact 0 = .ok (.iconst 0, 1) := by decide +kernel
theorem dX5_readFact_1 : decode cX5_readFact 1 = .ok (.istore_n 2, 1) := by decide +kernel
theorem dX5_readFact_2 : decode cX5_readFact 2 = .ok (.iconst 0, 1) := by decide +kernel
theorem dX5_readFact_3 : decode cX5_readFact 3 = .ok (.istore_n 3, 1) := by decide +kernel
theorem dX5_readFact_4 : decode cX5_readFact 4 = .ok (.iload_n 3, 1) := by decide +kernel
theorem dX5_readFact_5 : decode cX5_readFact 5 = .ok (.sipush 1600, 3) := by decide +kernel
theorem dX5_readFact_8 : decode cX5_readFact 8 = .ok (.if_icmp .ge 28, 3) := by decide +kernel
theorem dX5_readFact_11 : decode cX5_readFact 11 = .ok (.aload_n 0, 1) := by decide +kernel
theorem dX5_readFact_12 : decode cX5_readFact 12 = .ok (.bipush 18, 2) := by decide +kernel
theorem dX5_readFact_14 : decode cX5_readFact 14 = .ok (.invokevirtual 208, 3) := by decide +kernel
theorem dX5_readFact_17 : decode cX5_readFact 17 = .ok (.ifCond .eq 19, 3) := by decide +kernel
theorem dX5_readFact_20 : decode cX5_readFact 20 = .ok (.iload_n 2, 1) := by decide +kernel
theorem dX5_readFact_21 : decode cX5_readFact 21 = .ok (.ifCond .ne 7, 3) := by decide +kernel
theorem dX5_readFact_24 : decode cX5_readFact 24 = .ok (.iconst 1, 1) := by decide +kernel
theorem dX5_readFact_25 : decode cX5_readFact 25 = .ok (.goto 4, 3) := by decide +kernel
theorem dX5_readFact_28 : decode cX5_readFact 28 = .ok (.iconst 0, 1) := by decide +kernel
theorem dX5_readFact_29 : decode cX5_readFact 29 = .ok (.istore_n 2, 1) := by decide +kernel
theorem dX5_readFact_30 : decode cX5_readFact 30 = .ok (.iinc 3 1, 3) := by decide +kernel
theorem dX5_readFact_33 : decode cX5_readFact 33 = .ok (.goto (-29), 3) := by decide +kernel
theorem dX5_readFact_36 : decode cX5_readFact 36 = .ok (.aload_n 0, 1) := by decide +kernel
theorem dX5_readFact_37 : decode cX5_readFact 37 = .ok (.bipush 19, 2) := by decide +kernel
theorem dX5_readFact_39 : decode cX5_readFact 39 = .ok (.invokevirtual 208, 3) := by decide +kernel
theorem dX5_readFact_42 : decode cX5_readFact 42 = .ok (.ifCond .eq 13, 3) := by decide +kernel
theorem dX5_readFact_45 : decode cX5_readFact 45 = .ok (.aload_n 1, 1) := by decide +kernel
theorem dX5_readFact_46 : decode cX5_readFact 46 = .ok (.bipush (-5), 2) := by decide +kernel
theorem dX5_readFact_48 : decode cX5_readFact 48 = .ok (.invokevirtual 211, 3) := by decide +kernel
theorem dX5_readFact_51 : decode cX5_readFact 51 = .ok (.istore_n 3, 1) := by decide +kernel
theorem dX5_readFact_52 : decode cX5_readFact 52 = .ok (.goto 101, 3) := by decide +kernel
theorem dX5_readFact_55 : decode cX5_readFact 55 = .ok (.aload_n 0, 1) := by decide +kernel
theorem dX5_readFact_56 : decode cX5_readFact 56 = .ok (.bipush 91, 2) := by decide +kernel
theorem dX5_readFact_58 : decode cX5_readFact 58 = .ok (.invokevirtual 216, 3) := by decide +kernel
theorem dX5_readFact_61 : decode cX5_readFact 61 = .ok (.ifCond .eq 43, 3) := by decide +kernel
theorem dX5_readFact_64 : decode cX5_readFact 64 = .ok (.aload_n 0, 1) := by decide +kernel
theorem dX5_readFact_65 : decode cX5_readFact 65 = .ok (.invokevirtual 219, 3) := by decide +kernel
theorem dX5_readFact_68 : decode cX5_readFact 68 = .ok (.ifCond .eq 31, 3) := by decide +kernel
theorem dX5_readFact_71 : decode cX5_readFact 71 = .ok (.aload_n 0, 1) := by decide +kernel
theorem dX5_readFact_72 : decode cX5_readFact 72 = .ok (.aload_n 1, 1) := by decide +kernel
theorem dX5_readFact_73 : decode cX5_readFact 73 = .ok (.invokevirtual 183, 3) := by decide +kernel
theorem dX5_readFact_76 : decode cX5_readFact 76 = .ok (.ifCond .eq 23, 3) := by decide +kernel
theorem dX5_readFact_79 : decode cX5_readFact 79 = .ok (.aload_n 0, 1) := by decide +kernel
theorem dX5_readFact_80 : decode cX5_readFact 80 = .ok (.bipush 93, 2) := by decide +kernel
theorem dX5_readFact_82 : decode cX5_readFact 82 = .ok (.invokevirtual 105, 3) := by decide +kernel
theorem dX5_readFact_85 : decode cX5_readFact 85 = .ok (.ifCond .eq 14, 3) := by decide +kernel
theorem dX5_readFact_88 : decode cX5_readFact 88 = .ok (.aload_n 0, 1) := by decide +kernel
theorem dX5_readFact_89 : decode cX5_readFact 89 = .ok (.invokevirtual 223, 3) := by decide +kernel
theorem dX5_readFact_92 : decode cX5_readFact 92 = .ok (.ifCond .eq 7, 3) := by decide +kernel
theorem dX5_readFact_95 : decode cX5_readFact 95 = .ok (.iconst 1, 1) := by decide +kernel
theorem dX5_readFact_96 : decode cX5_readFact 96 = .ok (.goto 4, 3) := by decide +kernel
theorem dX5_readFact_99 : decode cX5_readFact 99 = .ok (.iconst 0, 1) := by decide +kernel
theorem dX5_readFact_100 : decode cX5_readFact 100 = .ok (.istore_n 3, 1) := by decide +kernel
theorem dX5_readFact_101 : decode cX5_readFact 101 = .ok (.goto 52, 3) := by decide +kernel
theorem dX5_readFact_104 : decode cX5_readFact 104 = .ok (.aload_n 0, 1) := by decide +kernel
theorem dX5_readFact_105 : decode cX5_readFact 105 = .ok (.aload_n 1, 1) := by decide +kernel
theorem dX5_readFact_106 : decode cX5_readFact 106 = .ok (.invokevirtual 226, 3) := by decide +kernel
theorem dX5_readFact_109 : decode cX5_readFact 109 = .ok (.istore_n 3, 1) := by decide +kernel
theorem dX5_readFact_110 : decode cX5_readFact 110 = .ok (.iload_n 3, 1) := by decide +kernel
theorem dX5_readFact_111 : decode cX5_readFact 111 = .ok (.ifCond .eq 10, 3) := by decide +kernel
theorem dX5_readFact_114 : decode cX5_readFact 114 = .ok (.aload_n 0, 1) := by decide +kernel
theorem dX5_readFact_115 : decode cX5_readFact 115 = .ok (.invokevirtual 229, 3) := by decide +kernel
theorem dX5_readFact_118 : decode cX5_readFact 118 = .ok (.goto 4, 3) := by decide +kernel
theorem dX5_readFact_121 : decode cX5_readFact 121 = .ok (.iconst (-1), 1) := by decide +kernel
theorem dX5_readFact_122 : decode cX5_readFact 122 = .ok (.istore 4, 2) := by decide +kernel
theorem dX5_readFact_124 : decode cX5_readFact 124 = .ok (.iload 4, 2) := by decide +kernel
theorem dX5_readFact_126 : decode cX5_readFact 126 = .ok (.iconst (-1), 1) := by decide +kernel
theorem dX5_readFact_127 : decode cX5_readFact 127 = .ok (.if_icmp .eq 24, 3) := by decide +kernel
theorem dX5_readFact_130 : decode cX5_readFact 130 = .ok (.aload_n 0, 1) := by decide +kernel
theorem dX5_readFact_131 : decode cX5_readFact 131 = .ok (.aload_n 1, 1) := by decide +kernel
theorem dX5_readFact_132 : decode cX5_readFact 132 = .ok (.invokevirtual 226, 3) := by decide +kernel
theorem dX5_readFact_135 : decode cX5_readFact 135 = .ok (.ifCond .eq 16, 3) := by decide +kernel
theorem dX5_readFact_138 : decode cX5_readFact 138 = .ok (.aload_n 1, 1) := by decide +kernel
theorem dX5_readFact_139 : decode cX5_readFact 139 = .ok (.iload 4, 2) := by decide +kernel
theorem dX5_readFact_141 : decode cX5_readFact 141 = .ok (.invokevirtual 211, 3) := by decide +kernel
theorem dX5_readFact_144 : decode cX5_readFact 144 = .ok (.ifCond .eq 7, 3) := by decide +kernel
theorem dX5_readFact_147 : decode cX5_readFact 147 = .ok (.iconst 1, 1) := by decide +kernel
theorem dX5_readFact_148 : decode cX5_readFact 148 = .ok (.goto 4, 3) := by decide +kernel
theorem dX5_readFact_151 : decode cX5_readFact 151 = .ok (.iconst 0, 1) := by decide +kernel
theorem dX5_readFact_152 : decode cX5_readFact 152 = .ok (.istore_n 3, 1) := by decide +kernel
theorem dX5_readFact_153 : decode cX5_readFact 153 = .ok (.iload_n 3, 1) := by decide +kernel
theorem dX5_readFact_154 : decode cX5_readFact 154 = .ok (.ifCond .eq 20, 3) := by decide +kernel
theorem dX5_readFact_157 : decode cX5_readFact 157 = .ok (.iload_n 2, 1) := by decide +kernel
theorem dX5_readFact_158 : decode cX5_readFact 158 = .ok (.ifCond .eq 12, 3) := by decide +kernel
theorem dX5_readFact_161 : decode cX5_readFact 161 = .ok (.aload_n 1, 1) := by decide +kernel
theorem dX5_readFact_162 : decode cX5_readFact 162 = .ok (.bipush (-6), 2) := by decide +kernel
theorem dX5_readFact_164 : decode cX5_readFact 164 = .ok (.invokevirtual 211, 3) := by decide +kernel
theorem dX5_readFact_167 : decode cX5_readFact 167 = .ok (.ifCond .eq 7, 3) := by decide +kernel
theorem dX5_readFact_170 : decode cX5_readFact 170 = .ok (.iconst 1, 1) := by decide +kernel
theorem dX5_readFact_171 : decode cX5_readFact 171 = .ok (.goto 4, 3) := by decide +kernel
theorem dX5_readFact_174 : decode cX5_readFact 174 = .ok (.iconst 0, 1) := by decide +kernel
theorem dX5_readFact_175 : decode cX5_readFact 175 = .ok (.ireturn, 1) := by decide +kernel
theorem dX5_readSum_0 : decode cX5_readSum 0 = .ok (.aload_n 0, 1) := by decide +kernel
theorem dX5_readSum_1 : decode cX5_readSum 1 = .ok (.aload_n 1, 1) := by decide +kernel
theorem dX5_readSum_2 : decode cX5_readSum 2 = .ok (.invokevirtual 232, 3) := by decide +kernel
theorem dX5_readSum_5 : decode cX5_readSum 5 = .ok (.ifCond .ne 5, 3) := by decide +kernel
theorem dX5_readSum_8 : decode cX5_readSum 8 = .ok (.iconst 0, 1) := by decide +kernel
theorem dX5_readSum_9 : decode cX5_readSum 9 = .ok (.ireturn, 1) := by decide +kernel
theorem dX5_readSum_10 : decode cX5_readSum 10 = .ok (.iconst 0, 1) := by decide +kernel
theorem dX5_readSum_11 : decode cX5_readSum 11 = .ok (.istore_n 2, 1) := by decide +kernel
theorem dX5_readSum_12 : decode cX5_readSum 12 = .ok (.iload_n 2, 1) := by decide +kernel
theorem dX5_readSum_13 : decode cX5_readSum 13 = .ok (.sipush 1600, 3) := by decide +kernel
theorem dX5_readSum_16 : decode cX5_readSum 16 = .ok (.if_icmp .ge 56, 3) := by decide +kernel
theorem dX5_readSum_19 : decode cX5_readSum 19 = .ok (.bipush (-12), 2) := by decide +kernel
theorem dX5_readSum_21 : decode cX5_readSum 21 = .ok (.istore_n 3, 1) := by decide +kernel
theorem dX5_readSum_22 : decode cX5_readSum 22 = .ok (.aload_n 0, 1) := by decide +kernel
theorem dX5_readSum_23 : decode cX5_readSum 23 = .ok (.bipush 45, 2) := by decide +kernel
theorem dX5_readSum_25 : decode cX5_readSum 25 = .ok (.invokevirtual 216, 3) := by decide +kernel
theorem dX5_readSum_28 : decode cX5_readSum 28 = .ok (.ifCond .eq 9, 3) := by decide +kernel
theorem dX5_readSum_31 : decode cX5_readSum 31 = .ok (.bipush (-13), 2) := by decide +kernel
theorem dX5_readSum_33 : decode cX5_readSum 33 = .ok (.istore_n 3, 1) := by decide +kernel
theorem dX5_readSum_34 : decode cX5_readSum 34 = .ok (.goto 14, 3) := by decide +kernel
theorem dX5_readSum_37 : decode cX5_readSum 37 = .ok (.aload_n 0, 1) := by decide +kernel
theorem dX5_readSum_38 : decode cX5_readSum 38 = .ok (.bipush 43, 2) := by decide +kernel
theorem dX5_readSum_40 : decode cX5_readSum 40 = .ok (.invokevirtual 216, 3) := by decide +kernel
theorem dX5_readSum_43 : decode cX5_readSum 43 = .ok (.ifCond .ne 5, 3) := by decide +kernel
theorem dX5_readSum_46 : decode cX5_readSum 46 = .ok (.iconst 1, 1) := by decide +kernel
theorem dX5_readSum_47 : decode cX5_readSum 47 = .ok (.ireturn, 1) := by decide +kernel
theorem dX5_readSum_48 : decode cX5_readSum 48 = .ok (.aload_n 0, 1) := by decide +kernel
theorem dX5_readSum_49 : decode cX5_readSum 49 = .ok (.aload_n 1, 1) := by decide +kernel
theorem dX5_readSum_50 : decode cX5_readSum 50 = .ok (.invokevirtual 232, 3) := by decide +kernel
theorem dX5_readSum_53 : decode cX5_readSum 53 = .ok (.ifCond .eq 11, 3) := by decide +kernel
theorem dX5_readSum_56 : decode cX5_readSum 56 = .ok (.aload_n 1, 1) := by decide +kernel
theorem dX5_readSum_57 : decode cX5_readSum 57 = .ok (.iload_n 3, 1) := by decide +kernel
theorem dX5_readSum_58 : decode cX5_readSum 58 = .ok (.invokevirtual 211, 3) := by decide +kernel
theorem dX5_readSum_61 : decode cX5_readSum 61 = .ok (.ifCond .ne 5, 3) := by decide +kernel
theorem dX5_readSum_64 : decode cX5_readSum 64 = .ok (.iconst 0, 1) := by decide +kernel
theorem dX5_readSum_65 : decode cX5_readSum 65 = .ok (.ireturn, 1) := by decide +kernel
theorem dX5_readSum_66 : decode cX5_readSum 66 = .ok (.iinc 2 1, 3) := by decide +kernel
theorem dX5_readSum_69 : decode cX5_readSum 69 = .ok (.goto (-57), 3) := by decide +kernel
theorem dX5_readSum_72 : decode cX5_readSum 72 = .ok (.iconst 0, 1) := by decide +kernel
theorem dX5_readSum_73 : decode cX5_readSum 73 = .ok (.ireturn, 1) := by decide +kernel
theorem dX5_readProduct_0 : decode cX5_readProduct 0 = .ok (.aload_n 0, 1) := by decide +kernel
theorem dX5_readProduct_1 : decode cX5_readProduct 1 = .ok (.aload_n 1, 1) := by decide +kernel
theorem dX5_readProduct_2 : decode cX5_readProduct 2 = .ok (.invokevirtual 235, 3) := by decide +kernel
theorem dX5_readProduct_5 : decode cX5_readProduct 5 = .ok (.ifCond .ne 5, 3) := by decide +kernel
theorem dX5_readProduct_8 : decode cX5_readProduct 8 = .ok (.iconst 0, 1) := by decide +kernel
theorem dX5_readProduct_9 : decode cX5_readProduct 9 = .ok (.ireturn, 1) := by decide +kernel
theorem dX5_readProduct_10 : decode cX5_readProduct 10 = .ok (.iconst 0, 1) := by decide +kernel
theorem dX5_readProduct_11 : decode cX5_readProduct 11 = .ok (.istore_n 2, 1) := by decide +kernel
theorem dX5_readProduct_12 : decode cX5_readProduct 12 = .ok (.iload_n 2, 1) := by decide +kernel
theorem dX5_readProduct_13 : decode cX5_readProduct 13 = .ok (.sipush 1600, 3) := by decide +kernel
theorem dX5_readProduct_16 : decode cX5_readProduct 16 = .ok (.if_icmp .ge 71, 3) := by decide +kernel
theorem dX5_readProduct_19 : decode cX5_readProduct 19 = .ok (.bipush (-14), 2) := by decide +kernel
theorem dX5_readProduct_21 : decode cX5_readProduct 21 = .ok (.istore_n 3, 1) := by decide +kernel
theorem dX5_readProduct_22 : decode cX5_readProduct 22 = .ok (.aload_n 0, 1) := by decide +kernel
theorem dX5_readProduct_23 : decode cX5_readProduct 23 = .ok (.bipush 47, 2) := by decide +kernel
theorem dX5_readProduct_25 : decode cX5_readProduct 25 = .ok (.invokevirtual 216, 3) := by decide +kernel
theorem dX5_readProduct_28 : decode cX5_readProduct 28 = .ok (.ifCond .eq 9, 3) := by decide +kernel
theorem dX5_readProduct_31 : decode cX5_readProduct 31 = .ok (.bipush (-15), 2) := by decide +kernel
theorem dX5_readProduct_33 : decode cX5_readProduct 33 = .ok (.istore_n 3, 1) := by decide +kernel
theorem dX5_readProduct_34 : decode cX5_readProduct 34 = .ok (.goto 29, 3) := by decide +kernel
theorem dX5_readProduct_37 : decode cX5_readProduct 37 = .ok (.aload_n 0, 1) := by decide +kernel
theorem dX5_readProduct_38 : decode cX5_readProduct 38 = .ok (.bipush 37, 2) := by decide +kernel
theorem dX5_readProduct_40 : decode cX5_readProduct 40 = .ok (.invokevirtual 216, 3) := by decide +kernel
theorem dX5_readProduct_43 : decode cX5_readProduct 43 = .ok (.ifCond .eq 9, 3) := by decide +kernel
theorem dX5_readProduct_46 : decode cX5_readProduct 46 = .ok (.bipush (-16), 2) := by decide +kernel
theorem dX5_readProduct_48 : decode cX5_readProduct 48 = .ok (.istore_n 3, 1) := by decide +kernel
theorem dX5_readProduct_49 : decode cX5_readProduct 49 = .ok (.goto 14, 3) := by decide +kernel
theorem dX5_readProduct_52 : decode cX5_readProduct 52 = .ok (.aload_n 0, 1) := by decide +kernel
theorem dX5_readProduct_53 : decode cX5_readProduct 53 = .ok (.bipush 42, 2) := by decide +kernel
theorem dX5_readProduct_55 : decode cX5_readProduct 55 = .ok (.invokevirtual 216, 3) := by decide +kernel
theorem dX5_readProduct_58 : decode cX5_readProduct 58 = .ok (.ifCond .ne 5, 3) := by decide +kernel
theorem dX5_readProduct_61 : decode cX5_readProduct 61 = .ok (.iconst 1, 1) := by decide +kernel
theorem dX5_readProduct_62 : decode cX5_readProduct 62 = .ok (.ireturn, 1) := by decide +kernel
theorem dX5_readProduct_63 : decode cX5_readProduct 63 = .ok (.aload_n 0, 1) := by decide +kernel
theorem dX5_readProduct_64 : decode cX5_readProduct 64 = .ok (.aload_n 1, 1) := by decide +kernel
theorem dX5_readProduct_65 : decode cX5_readProduct 65 = .ok (.invokevirtual 235, 3) := by decide +kernel
theorem dX5_readProduct_68 : decode cX5_readProduct 68 = .ok (.ifCond .eq 11, 3) := by decide +kernel
theorem dX5_readProduct_71 : decode cX5_readProduct 71 = .ok (.aload_n 1, 1) := by decide +kernel
theorem dX5_readProduct_72 : decode cX5_readProduct 72 = .ok (.iload_n 3, 1) := by decide +kernel
theorem dX5_readProduct_73 : decode cX5_readProduct 73 = .ok (.invokevirtual 211, 3) := by decide +kernel
theorem dX5_readProduct_76 : decode cX5_readProduct 76 = .ok (.ifCond .ne 5, 3) := by decide +kernel
theorem dX5_readProduct_79 : decode cX5_readProduct 79 = .ok (.iconst 0, 1) := by decide +kernel
theorem dX5_readProduct_80 : decode cX5_readProduct 80 = .ok (.ireturn, 1) := by decide +kernel
theorem dX5_readProduct_81 : decode cX5_readProduct 81 = .ok (.iinc 2 1, 3) := by decide +kernel
theorem dX5_readProduct_84 : decode cX5_readProduct 84 = .ok (.goto (-72), 3) := by decide +kernel
theorem dX5_readProduct_87 : decode cX5_readProduct 87 = .ok (.iconst 0, 1) := by decide +kernel
theorem dX5_readProduct_88 : decode cX5_readProduct 88 = .ok (.ireturn, 1) := by decide +kernel
theorem dX5_readPart_0 : decode cX5_readPart 0 = .ok (.aload_n 0, 1) := by decide +kernel
theorem dX5_readPart_1 : decode cX5_readPart 1 = .ok (.getfield 30, 3) := by decide +kernel
theorem dX5_readPart_4 : decode cX5_readPart 4 = .ok (.invokevirtual 54, 3) := by decide +kernel
theorem dX5_readPart_7 : decode cX5_readPart 7 = .ok (.aload_n 0, 1) := by decide +kernel
theorem dX5_readPart_8 : decode cX5_readPart 8 = .ok (.getfield 30, 3) := by decide +kernel
theorem dX5_readPart_11 : decode cX5_readPart 11 = .ok (.getfield 57, 3) := by decide +kernel
theorem dX5_readPart_14 : decode cX5_readPart 14 = .ok (.iconst 2, 1) := by decide +kernel
theorem dX5_readPart_15 : decode cX5_readPart 15 = .ok (.if_icmp .ne 22, 3) := by decide +kernel
theorem dX5_readPart_18 : decode cX5_readPart 18 = .ok (.aload_n 0, 1) := by decide +kernel
theorem dX5_readPart_19 : decode cX5_readPart 19 = .ok (.getfield 30, 3) := by decide +kernel
theorem dX5_readPart_22 : decode cX5_readPart 22 = .ok (.invokevirtual 125, 3) := by decide +kernel
theorem dX5_readPart_25 : decode cX5_readPart 25 = .ok (.aload_n 1, 1) := by decide +kernel
theorem dX5_readPart_26 : decode cX5_readPart 26 = .ok (.aload_n 0, 1) := by decide +kernel
theorem dX5_readPart_27 : decode cX5_readPart 27 = .ok (.getfield 30, 3) := by decide +kernel
theorem dX5_readPart_30 : decode cX5_readPart 30 = .ok (.getfield 112, 3) := by decide +kernel
theorem dX5_readPart_33 : decode cX5_readPart 33 = .ok (.invokevirtual 211, 3) := by decide +kernel
theorem dX5_readPart_36 : decode cX5_readPart 36 = .ok (.ireturn, 1) := by decide +kernel
theorem dX5_readPart_37 : decode cX5_readPart 37 = .ok (.aload_n 0, 1) := by decide +kernel
theorem dX5_readPart_38 : decode cX5_readPart 38 = .ok (.bipush 40, 2) := by decide +kernel
theorem dX5_readPart_40 : decode cX5_readPart 40 = .ok (.invokevirtual 216, 3) := by decide +kernel
theorem dX5_readPart_43 : decode cX5_readPart 43 = .ok (.ifCond .eq 40, 3) := by decide +kernel
theorem dX5_readPart_46 : decode cX5_readPart 46 = .ok (.aload_n 0, 1) := by decide +kernel
theorem dX5_readPart_47 : decode cX5_readPart 47 = .ok (.invokevirtual 219, 3) := by decide +kernel
theorem dX5_readPart_50 : decode cX5_readPart 50 = .ok (.ifCond .eq 31, 3) := by decide +kernel
theorem dX5_readPart_53 : decode cX5_readPart 53 = .ok (.aload_n 0, 1) := by decide +kernel
theorem dX5_readPart_54 : decode cX5_readPart 54 = .ok (.aload_n 1, 1) := by decide +kernel
theorem dX5_readPart_55 : decode cX5_readPart 55 = .ok (.invokevirtual 226, 3) := by decide +kernel
theorem dX5_readPart_58 : decode cX5_readPart 58 = .ok (.ifCond .eq 23, 3) := by decide +kernel
theorem dX5_readPart_61 : decode cX5_readPart 61 = .ok (.aload_n 0, 1) := by decide +kernel
theorem dX5_readPart_62 : decode cX5_readPart 62 = .ok (.bipush 41, 2) := by decide +kernel
theorem dX5_readPart_64 : decode cX5_readPart 64 = .ok (.invokevirtual 105, 3) := by decide +kernel
theorem dX5_readPart_67 : decode cX5_readPart 67 = .ok (.ifCond .eq 14, 3) := by decide +kernel
theorem dX5_readPart_70 : decode cX5_readPart 70 = .ok (.aload_n 0, 1) := by decide +kernel
theorem dX5_readPart_71 : decode cX5_readPart 71 = .ok (.invokevirtual 223, 3) := by decide +kernel
theorem dX5_readPart_74 : decode cX5_readPart 74 = .ok (.ifCond .eq 7, 3) := by decide +kernel
theorem dX5_readPart_77 : decode cX5_readPart 77 = .ok (.iconst 1, 1) := by decide +kernel
theorem dX5_readPart_78 : decode cX5_readPart 78 = .ok (.goto 4, 3) := by decide +kernel
theorem dX5_readPart_81 : decode cX5_readPart 81 = .ok (.iconst 0, 1) := by decide +kernel
theorem dX5_readPart_82 : decode cX5_readPart 82 = .ok (.ireturn, 1) := by decide +kernel
theorem dX5_readPart_83 : decode cX5_readPart 83 = .ok (.aload_n 0, 1) := by decide +kernel
theorem dX5_readPart_84 : decode cX5_readPart 84 = .ok (.bipush 20, 2) := by decide +kernel
theorem dX5_readPart_86 : decode cX5_readPart 86 = .ok (.invokevirtual 208, 3) := by decide +kernel
theorem dX5_readPart_89 : decode cX5_readPart 89 = .ok (.ifCond .eq 9, 3) := by decide +kernel
theorem dX5_readPart_92 : decode cX5_readPart 92 = .ok (.aload_n 1, 1) := by decide +kernel
theorem dX5_readPart_93 : decode cX5_readPart 93 = .ok (.iconst (-1), 1) := by decide +kernel
theorem dX5_readPart_94 : decode cX5_readPart 94 = .ok (.invokevirtual 211, 3) := by decide +kernel
theorem dX5_readPart_97 : decode cX5_readPart 97 = .ok (.ireturn, 1) := by decide +kernel
theorem dX5_readPart_98 : decode cX5_readPart 98 = .ok (.aload_n 0, 1) := by decide +kernel
theorem dX5_readPart_99 : decode cX5_readPart 99 = .ok (.bipush 21, 2) := by decide +kernel
theorem dX5_readPart_101 : decode cX5_readPart 101 = .ok (.invokevirtual 208, 3) := by decide +kernel
theorem dX5_readPart_104 : decode cX5_readPart 104 = .ok (.ifCond .eq 10, 3) := by decide +kernel
theorem dX5_readPart_107 : decode cX5_readPart 107 = .ok (.aload_n 1, 1) := by decide +kernel
theorem dX5_readPart_108 : decode cX5_readPart 108 = .ok (.bipush (-2), 2) := by decide +kernel
theorem dX5_readPart_110 : decode cX5_readPart 110 = .ok (.invokevirtual 211, 3) := by decide +kernel
theorem dX5_readPart_113 : decode cX5_readPart 113 = .ok (.ireturn, 1) := by decide +kernel
theorem dX5_readPart_114 : decode cX5_readPart 114 = .ok (.aload_n 0, 1) := by decide +kernel
theorem dX5_readPart_115 : decode cX5_readPart 115 = .ok (.bipush 22, 2) := by decide +kernel
theorem dX5_readPart_117 : decode cX5_readPart 117 = .ok (.invokevirtual 208, 3) := by decide +kernel
theorem dX5_readPart_120 : decode cX5_readPart 120 = .ok (.ifCond .eq 10, 3) := by decide +kernel
theorem dX5_readPart_123 : decode cX5_readPart 123 = .ok (.aload_n 1, 1) := by decide +kernel
theorem dX5_readPart_124 : decode cX5_readPart 124 = .ok (.bipush (-3), 2) := by decide +kernel
theorem dX5_readPart_126 : decode cX5_readPart 126 = .ok (.invokevirtual 211, 3) := by decide +kernel
theorem dX5_readPart_129 : decode cX5_readPart 129 = .ok (.ireturn, 1) := by decide +kernel
theorem dX5_readPart_130 : decode cX5_readPart 130 = .ok (.aload_n 0, 1) := by decide +kernel
theorem dX5_readPart_131 : decode cX5_readPart 131 = .ok (.bipush 23, 2) := by decide +kernel
theorem dX5_readPart_133 : decode cX5_readPart 133 = .ok (.invokevirtual 208, 3) := by decide +kernel
theorem dX5_readPart_136 : decode cX5_readPart 136 = .ok (.ifCond .eq 10, 3) := by decide +kernel
theorem dX5_readPart_139 : decode cX5_readPart 139 = .ok (.aload_n 1, 1) := by decide +kernel
theorem dX5_readPart_140 : decode cX5_readPart 140 = .ok (.bipush (-4), 2) := by decide +kernel
theorem dX5_readPart_142 : decode cX5_readPart 142 = .ok (.invokevirtual 211, 3) := by decide +kernel
theorem dX5_readPart_145 : decode cX5_readPart 145 = .ok (.ireturn, 1) := by decide +kernel
theorem dX5_readPart_146 : decode cX5_readPart 146 = .ok (.aload_n 0, 1) := by decide +kernel
theorem dX5_readPart_147 : decode cX5_readPart 147 = .ok (.bipush 24, 2) := by decide +kernel
theorem dX5_readPart_149 : decode cX5_readPart 149 = .ok (.invokevirtual 208, 3) := by decide +kernel
theorem dX5_readPart_152 : decode cX5_readPart 152 = .ok (.ifCond .eq 26, 3) := by decide +kernel
theorem dX5_readPart_155 : decode cX5_readPart 155 = .ok (.aload_n 0, 1) := by decide +kernel
theorem dX5_readPart_156 : decode cX5_readPart 156 = .ok (.aload_n 1, 1) := by decide +kernel
theorem dX5_readPart_157 : decode cX5_readPart 157 = .ok (.invokevirtual 238, 3) := by decide +kernel
theorem dX5_readPart_160 : decode cX5_readPart 160 = .ok (.ifCond .eq 16, 3) := by decide +kernel
theorem dX5_readPart_163 : decode cX5_readPart 163 = .ok (.aload_n 1, 1) := by decide +kernel
theorem dX5_readPart_164 : decode cX5_readPart 164 = .ok (.bipush (-17), 2) := by decide +kernel
theorem dX5_readPart_166 : decode cX5_readPart 166 = .ok (.invokevirtual 211, 3) := by decide +kernel
theorem dX5_readPart_169 : decode cX5_readPart 169 = .ok (.ifCond .eq 7, 3) := by decide +kernel
theorem dX5_readPart_172 : decode cX5_readPart 172 = .ok (.iconst 1, 1) := by decide +kernel
theorem dX5_readPart_173 : decode cX5_readPart 173 = .ok (.goto 4, 3) := by decide +kernel
theorem dX5_readPart_176 : decode cX5_readPart 176 = .ok (.iconst 0, 1) := by decide +kernel
theorem dX5_readPart_177 : decode cX5_readPart 177 = .ok (.ireturn, 1) := by decide +kernel
theorem dX5_readPart_178 : decode cX5_readPart 178 = .ok (.aload_n 0, 1) := by decide +kernel
theorem dX5_readPart_179 : decode cX5_readPart 179 = .ok (.bipush 25, 2) := by decide +kernel
theorem dX5_readPart_181 : decode cX5_readPart 181 = .ok (.invokevirtual 208, 3) := by decide +kernel
theorem dX5_readPart_184 : decode cX5_readPart 184 = .ok (.ifCond .eq 26, 3) := by decide +kernel
theorem dX5_readPart_187 : decode cX5_readPart 187 = .ok (.aload_n 0, 1) := by decide +kernel
theorem dX5_readPart_188 : decode cX5_readPart 188 = .ok (.aload_n 1, 1) := by decide +kernel
theorem dX5_readPart_189 : decode cX5_readPart 189 = .ok (.invokevirtual 238, 3) := by decide +kernel
theorem dX5_readPart_192 : decode cX5_readPart 192 = .ok (.ifCond .eq 16, 3) := by decide +kernel
theorem dX5_readPart_195 : decode cX5_readPart 195 = .ok (.aload_n 1, 1) := by decide +kernel
theorem dX5_readPart_196 : decode cX5_readPart 196 = .ok (.bipush (-18), 2) := by decide +kernel
theorem dX5_readPart_198 : decode cX5_readPart 198 = .ok (.invokevirtual 211, 3) := by decide +kernel
theorem dX5_readPart_201 : decode cX5_readPart 201 = .ok (.ifCond .eq 7, 3) := by decide +kernel
theorem dX5_readPart_204 : decode cX5_readPart 204 = .ok (.iconst 1, 1) := by decide +kernel
theorem dX5_readPart_205 : decode cX5_readPart 205 = .ok (.goto 4, 3) := by decide +kernel
theorem dX5_readPart_208 : decode cX5_readPart 208 = .ok (.iconst 0, 1) := by decide +kernel
theorem dX5_readPart_209 : decode cX5_readPart 209 = .ok (.ireturn, 1) := by decide +kernel
theorem dX5_readPart_210 : decode cX5_readPart 210 = .ok (.aload_n 0, 1) := by decide +kernel
theorem dX5_readPart_211 : decode cX5_readPart 211 = .ok (.iconst 1, 1) := by decide +kernel
theorem dX5_readPart_212 : decode cX5_readPart 212 = .ok (.invokevirtual 132, 3) := by decide +kernel
theorem dX5_readPart_215 : decode cX5_readPart 215 = .ok (.ireturn, 1) := by decide +kernel
theorem dX5_readPair_0 : decode cX5_readPair 0 = .ok (.aload_n 0, 1) := by decide +kernel
theorem dX5_readPair_1 : decode cX5_readPair 1 = .ok (.bipush 40, 2) := by decide +kernel
theorem dX5_readPair_3 : decode cX5_readPair 3 = .ok (.invokevirtual 105, 3) := by decide +kernel
theorem dX5_readPair_6 : decode cX5_readPair 6 = .ok (.ifCond .eq 55, 3) := by decide +kernel
theorem dX5_readPair_9 : decode cX5_readPair 9 = .ok (.aload_n 0, 1) := by decide +kernel
theorem dX5_readPair_10 : decode cX5_readPair 10 = .ok (.invokevirtual 219, 3) := by decide +kernel
theorem dX5_readPair_13 : decode cX5_readPair 13 = .ok (.ifCond .eq 48, 3) := by decide +kernel
theorem dX5_readPair_16 : decode cX5_readPair 16 = .ok (.aload_n 0, 1) := by decide +kernel
theorem dX5_readPair_17 : decode cX5_readPair 17 = .ok (.aload_n 1, 1) := by decide +kernel
theorem dX5_readPair_18 : decode cX5_readPair 18 = .ok (.invokevirtual 226, 3) := by decide +kernel
theorem dX5_readPair_21 : decode cX5_readPair 21 = .ok (.ifCond .eq 40, 3) := by decide +kernel
theorem dX5_readPair_24 : decode cX5_readPair 24 = .ok (.aload_n 0, 1) := by decide +kernel
theorem dX5_readPair_25 : decode cX5_readPair 25 = .ok (.bipush 44, 2) := by decide +kernel
theorem dX5_readPair_27 : decode cX5_readPair 27 = .ok (.invokevirtual 105, 3) := by decide +kernel
theorem dX5_readPair_30 : decode cX5_readPair 30 = .ok (.ifCond .eq 31, 3) := by decide +kernel
theorem dX5_readPair_33 : decode cX5_readPair 33 = .ok (.aload_n 0, 1) := by decide +kernel
theorem dX5_readPair_34 : decode cX5_readPair 34 = .ok (.aload_n 1, 1) := by decide +kernel
theorem dX5_readPair_35 : decode cX5_readPair 35 = .ok (.invokevirtual 226, 3) := by decide +kernel
theorem dX5_readPair_38 : decode cX5_readPair 38 = .ok (.ifCond .eq 23, 3) := by decide +kernel
theorem dX5_readPair_41 : decode cX5_readPair 41 = .ok (.aload_n 0, 1) := by decide +kernel
theorem dX5_readPair_42 : decode cX5_readPair 42 = .ok (.bipush 41, 2) := by decide +kernel
theorem dX5_readPair_44 : decode cX5_readPair 44 = .ok (.invokevirtual 105, 3) := by decide +kernel
theorem dX5_readPair_47 : decode cX5_readPair 47 = .ok (.ifCond .eq 14, 3) := by decide +kernel
theorem dX5_readPair_50 : decode cX5_readPair 50 = .ok (.aload_n 0, 1) := by decide +kernel
theorem dX5_readPair_51 : decode cX5_readPair 51 = .ok (.invokevirtual 223, 3) := by decide +kernel
theorem dX5_readPair_54 : decode cX5_readPair 54 = .ok (.ifCond .eq 7, 3) := by decide +kernel
theorem dX5_readPair_57 : decode cX5_readPair 57 = .ok (.iconst 1, 1) := by decide +kernel
theorem dX5_readPair_58 : decode cX5_readPair 58 = .ok (.goto 4, 3) := by decide +kernel
theorem dX5_readPair_61 : decode cX5_readPair 61 = .ok (.iconst 0, 1) := by decide +kernel
theorem dX5_readPair_62 : decode cX5_readPair 62 = .ok (.ireturn, 1) := by decide +kernel
