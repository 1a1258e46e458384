theorem dkX0_prepareWants_0 : dkq cX0_prepareWants [(0, .aload_n 0, 1), (1, .iconst 0, 1), (2, .putfield 42, 3), (5, .aload_n 0, 1), (6, .getfield 55, 3), (9, .iconst 2, 1), (10, .if_icmp .eq 4, 3), (13, .return_, 1), (14, .iconst 0, 1), (15, .istore_n 3, 1), (16, .iload_n 3, 1), (17, .aload_n 1, 1), (18, .getfield 73, 3), (21, .iconst 4, 1), (22, .iaload, 1), (23, .if_icmp .ge 55, 3)] = true := by decide +kernel
theorem dkX0_prepareWants_1 : dkq cX0_prepareWants [(26, .aload_n 1, 1), (27, .getfield 130, 3), (30, .iload_n 2, 1), (31, .iaload, 1), (32, .iload_n 3, 1), (33, .ishr, 1), (34, .iconst 1, 1), (35, .iand, 1), (36, .ifCond .eq 36, 3), (39, .aload_n 0, 1), (40, .getfield 42, 3), (43, .iconst 2, 1), (44, .if_icmp .ge 28, 3), (47, .aload_n 0, 1), (48, .getfield 33, 3), (51, .aload_n 0, 1)] = true := by decide +kernel
theorem dkX0_prepareWants_2 : dkq cX0_prepareWants [(52, .getfield 42, 3), (55, .aload_n 1, 1), (56, .getfield 133, 3), (59, .iload_n 3, 1), (60, .iaload, 1), (61, .iastore, 1), (62, .aload_n 0, 1), (63, .dup, 1), (64, .getfield 42, 3), (67, .iconst 1, 1), (68, .iadd, 1), (69, .putfield 42, 3), (72, .iinc 3 1, 3), (75, .goto (-59), 3), (78, .return_, 1)] = true := by decide +kernel
theorem dkX0_prepareKeys_0 : dkq cX0_prepareKeys [(0, .aload_n 0, 1), (1, .aload_n 1, 1), (2, .getfield 136, 3), (5, .putfield 52, 3), (8, .aload_n 1, 1), (9, .getfield 73, 3), (12, .iconst 0, 1), (13, .iaload, 1), (14, .istore_n 3, 1), (15, .iconst 0, 1), (16, .istore 4, 2), (18, .iload 4, 2), (20, .iconst 4, 1), (21, .if_icmp .ge 163, 3), (24, .aload_n 0, 1), (25, .getfield 20, 3)] = true := by decide +kernel
theorem dkX0_prepareKeys_1 : dkq cX0_prepareKeys [(28, .iload 4, 2), (30, .iconst 0, 1), (31, .iastore, 1), (32, .iload 4, 2), (34, .aload_n 1, 1), (35, .getfield 73, 3), (38, .iconst 2, 1), (39, .iaload, 1), (40, .if_icmp .lt 6, 3), (43, .goto 135, 3), (46, .iload_n 2, 1), (47, .iload 4, 2), (49, .ishr, 1), (50, .iconst 1, 1), (51, .iand, 1), (52, .ifCond .ne 24, 3)] = true := by decide +kernel
theorem dkX0_prepareKeys_2 : dkq cX0_prepareKeys [(55, .aload_n 0, 1), (56, .dup, 1), (57, .getfield 52, 3), (60, .aload_n 1, 1), (61, .getfield 80, 3), (64, .iload 4, 2), (66, .invokevirtual 139, 3), (69, .ior, 1), (70, .putfield 52, 3), (73, .goto 105, 3), (76, .aload_n 0, 1), (77, .getfield 20, 3), (80, .iload 4, 2), (82, .iload_n 3, 1), (83, .iastore, 1), (84, .iload_n 3, 1)] = true := by decide +kernel
theorem dkX0_prepareKeys_3 : dkq cX0_prepareKeys [(85, .aload_n 1, 1), (86, .getfield 80, 3), (89, .getfield 142, 3), (92, .iload 4, 2), (94, .iaload, 1), (95, .iconst 1, 1), (96, .iadd, 1), (97, .imul, 1), (98, .istore_n 3, 1), (99, .aload_n 0, 1), (100, .getfield 17, 3), (103, .iload 4, 2), (105, .aaload, 1), (106, .iconst 0, 1), (107, .iconst 0, 1), (108, .iastore, 1)] = true := by decide +kernel
theorem dkX0_prepareKeys_4 : dkq cX0_prepareKeys [(109, .iconst 0, 1), (110, .istore 5, 2), (112, .iload 5, 2), (114, .aload_n 1, 1), (115, .getfield 80, 3), (118, .getfield 142, 3), (121, .iload 4, 2), (123, .iaload, 1), (124, .if_icmp .ge 54, 3), (127, .iload 5, 2), (129, .bipush 6, 2), (131, .if_icmp .ge 47, 3), (134, .aload_n 0, 1), (135, .getfield 17, 3), (138, .iload 4, 2), (140, .aaload, 1)] = true := by decide +kernel
theorem dkX0_prepareKeys_5 : dkq cX0_prepareKeys [(141, .iload 5, 2), (143, .iconst 1, 1), (144, .iadd, 1), (145, .aload_n 0, 1), (146, .getfield 17, 3), (149, .iload 4, 2), (151, .aaload, 1), (152, .iload 5, 2), (154, .iaload, 1), (155, .iconst 1, 1), (156, .aload_n 1, 1), (157, .getfield 80, 3), (160, .getfield 145, 3), (163, .iload 4, 2), (165, .aaload, 1), (166, .iload 5, 2)] = true := by decide +kernel
theorem dkX0_prepareKeys_6 : dkq cX0_prepareKeys [(168, .iaload, 1), (169, .ishl, 1), (170, .ior, 1), (171, .iastore, 1), (172, .iinc 5 1, 3), (175, .goto (-63), 3), (178, .iinc 4 1, 3), (181, .goto (-163), 3), (184, .aload_n 0, 1), (185, .iload_n 3, 1), (186, .putfield 46, 3), (189, .aload_n 0, 1), (190, .iload_n 3, 1), (191, .aload_n 0, 1), (192, .getfield 42, 3), (195, .ishl, 1)] = true := by decide +kernel
theorem dkX0_prepareKeys_7 : dkq cX0_prepareKeys [(196, .ldc 148, 2), (198, .invokestatic 149, 3), (201, .putfield 49, 3), (204, .return_, 1)] = true := by decide +kernel
theorem dkX0_prepareDoors_0 : dkq cX0_prepareDoors [(0, .iconst 0, 1), (1, .istore_n 2, 1), (2, .iload_n 2, 1), (3, .bipush 8, 2), (5, .if_icmp .ge 63, 3), (8, .aload_n 0, 1), (9, .getfield 27, 3), (12, .iload_n 2, 1), (13, .iconst 0, 1), (14, .iastore, 1), (15, .iconst 0, 1), (16, .istore_n 3, 1), (17, .iload_n 3, 1), (18, .aload_n 1, 1), (19, .getfield 73, 3), (22, .iconst 1, 1)] = true := by decide +kernel
theorem dkX0_prepareDoors_1 : dkq cX0_prepareDoors [(23, .iaload, 1), (24, .if_icmp .ge 38, 3), (27, .aload_n 1, 1), (28, .iload_n 3, 1), (29, .invokevirtual 155, 3), (32, .ifCond .ne 24, 3), (35, .aload_n 1, 1), (36, .iload_n 3, 1), (37, .iload_n 2, 1), (38, .invokevirtual 159, 3), (41, .ifCond .eq 15, 3), (44, .aload_n 0, 1), (45, .getfield 27, 3), (48, .iload_n 2, 1), (49, .dup2, 1), (50, .iaload, 1)] = true := by decide +kernel
theorem dkX0_prepareDoors_2 : dkq cX0_prepareDoors [(51, .iconst 1, 1), (52, .iload_n 3, 1), (53, .ishl, 1), (54, .ior, 1), (55, .iastore, 1), (56, .iinc 3 1, 3), (59, .goto (-42), 3), (62, .iinc 2 1, 3), (65, .goto (-63), 3), (68, .return_, 1)] = true := by decide +kernel
theorem dkX6_inRow_0 : dkq cX6_inRow [(0, .iload_n 1, 1), (1, .ifCond .lt 28, 3), (4, .iload_n 1, 1), (5, .iconst 4, 1), (6, .if_icmp .ge 23, 3), (9, .iload_n 2, 1), (10, .ifCond .lt 19, 3), (13, .iload_n 2, 1), (14, .aload_n 0, 1), (15, .getfield 18, 3), (18, .iload_n 1, 1), (19, .iaload, 1), (20, .if_icmp .ge 9, 3), (23, .iload_n 2, 1), (24, .bipush 6, 2), (26, .if_icmp .lt 5, 3)] = true := by decide +kernel
theorem dkX6_inRow_1 : dkq cX6_inRow [(29, .iconst (-1), 1), (30, .ireturn, 1), (31, .aload_n 0, 1), (32, .getfield 23, 3), (35, .iload_n 1, 1), (36, .aaload, 1), (37, .iload_n 2, 1), (38, .iaload, 1), (39, .ireturn, 1)] = true := by decide +kernel
theorem dkX6_rowMask_0 : dkq cX6_rowMask [(0, .iconst 0, 1), (1, .istore_n 2, 1), (2, .iconst 0, 1), (3, .istore_n 3, 1), (4, .iload_n 3, 1), (5, .bipush 6, 2), (7, .if_icmp .ge 30, 3), (10, .aload_n 0, 1), (11, .iload_n 1, 1), (12, .iload_n 3, 1), (13, .invokevirtual 26, 3), (16, .istore 4, 2), (18, .iload 4, 2), (20, .iconst (-1), 1), (21, .if_icmp .eq 10, 3), (24, .iload_n 2, 1)] = true := by decide +kernel
theorem dkX6_rowMask_1 : dkq cX6_rowMask [(25, .iconst 1, 1), (26, .iload 4, 2), (28, .ishl, 1), (29, .ior, 1), (30, .istore_n 2, 1), (31, .iinc 3 1, 3), (34, .goto (-30), 3), (37, .iload_n 2, 1), (38, .ireturn, 1)] = true := by decide +kernel
theorem dkX9_isThere_0 : dkq cX9_isThere [(0, .iload_n 1, 1), (1, .ifCond .lt 27, 3), (4, .iload_n 1, 1), (5, .bipush 8, 2), (7, .if_icmp .ge 21, 3), (10, .iload_n 2, 1), (11, .ifCond .lt 17, 3), (14, .iload_n 2, 1), (15, .aload_n 0, 1), (16, .getfield 9, 3), (19, .iload_n 1, 1), (20, .iaload, 1), (21, .if_icmp .ge 7, 3), (24, .iconst 1, 1), (25, .goto 4, 3), (28, .iconst 0, 1)] = true := by decide +kernel
theorem dkX9_isThere_1 : dkq cX9_isThere [(29, .ireturn, 1)] = true := by decide +kernel
theorem dkX9_isBox_0 : dkq cX9_isBox [(0, .iload_n 1, 1), (1, .ifCond .lt 26, 3), (4, .iload_n 1, 1), (5, .aload_n 0, 1), (6, .getfield 9, 3), (9, .iconst 1, 1), (10, .iaload, 1), (11, .if_icmp .ge 16, 3), (14, .aload_n 0, 1), (15, .getfield 26, 3), (18, .iload_n 1, 1), (19, .iaload, 1), (20, .ifCond .ne 7, 3), (23, .iconst 1, 1), (24, .goto 4, 3), (27, .iconst 0, 1)] = true := by decide +kernel
theorem dkX9_isBox_1 : dkq cX9_isBox [(28, .ireturn, 1)] = true := by decide +kernel
theorem dkX9_isAt_0 : dkq cX9_isAt [(0, .iload_n 1, 1), (1, .ifCond .lt 37, 3), (4, .iload_n 1, 1), (5, .aload_n 0, 1), (6, .getfield 9, 3), (9, .iconst 1, 1), (10, .iaload, 1), (11, .if_icmp .ge 27, 3), (14, .aload_n 0, 1), (15, .getfield 20, 3), (18, .iload_n 1, 1), (19, .iaload, 1), (20, .iload_n 2, 1), (21, .if_icmp .eq 13, 3), (24, .aload_n 0, 1), (25, .getfield 23, 3)] = true := by decide +kernel
theorem dkX9_isAt_1 : dkq cX9_isAt [(28, .iload_n 1, 1), (29, .iaload, 1), (30, .iload_n 2, 1), (31, .if_icmp .ne 7, 3), (34, .iconst 1, 1), (35, .goto 4, 3), (38, .iconst 0, 1), (39, .ireturn, 1)] = true := by decide +kernel
theorem dkX9_keysOf_0 : dkq cX9_keysOf [(0, .iconst 0, 1), (1, .istore_n 2, 1), (2, .iconst 0, 1), (3, .istore_n 3, 1), (4, .iload_n 3, 1), (5, .aload_n 0, 1), (6, .getfield 9, 3), (9, .iconst 2, 1), (10, .iaload, 1), (11, .if_icmp .ge 28, 3), (14, .aload_n 0, 1), (15, .getfield 63, 3), (18, .getfield 84, 3), (21, .iload_n 3, 1), (22, .iaload, 1), (23, .iload_n 1, 1)] = true := by decide +kernel
theorem dkX9_keysOf_1 : dkq cX9_keysOf [(24, .if_icmp .ne 9, 3), (27, .iload_n 2, 1), (28, .iconst 1, 1), (29, .iload_n 3, 1), (30, .ishl, 1), (31, .ior, 1), (32, .istore_n 2, 1), (33, .iinc 3 1, 3), (36, .goto (-32), 3), (39, .iload_n 2, 1), (40, .ireturn, 1)] = true := by decide +kernel
abbrev tr_d_X9_keysOf_2 (K1 : Int → Int → Prop) (z1 : Int) (z : Int) (z17 : Int) : Prop := ((-2147483648 ≤ z17 ∧ z17 ≤ 2147483647) ∧ (K1 (z1 + 1) z17))
def d_X9_keysOf_2 (K1 : Int → Int → Prop) (z1 : Int) (z : Int) (z17 : Int) : Prop := tr_d_X9_keysOf_2 K1 z1 z z17
theorem u_d_X9_keysOf_2 {K1 : Int → Int → Prop} {z1 : Int} {z : Int} {z17 : Int} (h : tr_d_X9_keysOf_2 K1 z1 z z17) : d_X9_keysOf_2 K1 z1 z z17 := h
abbrev tr_d_X9_keysOf_1 (ta : Nat) (x1 : Int) (A : St) (z : Int) (K1 : Int → Int → Prop) (z1 : Int) (z2 : Int) : Prop := ((0 ≤ z1 ∧ z1 ≤ 2147483647) ∧ ((-2147483648 ≤ z2 ∧ z2 ≤ 2147483647) ∧ (∃ z10 : Int, z10 = A (ta + 1) (2 : Int).toNat ∧ (((z10 ≤ z1) ∧ (z = z2)) ∨ ((¬ z10 ≤ z1) ∧ (∃ z12 : Int, z12 = A ((ta + 22) + 2) (z1).toNat ∧ (((¬ z12 = x1) ∧ (d_X9_keysOf_2 K1 z1 z z2)) ∨ ((z12 = x1) ∧ (∃ z15 : Int, z15 = oShl 1 z1 ∧ (∃ z16 : Int, z16 = oOr z2 z15 ∧ (d_X9_keysOf_2 K1 z1 z z16)))))))))))
def d_X9_keysOf_1 (ta : Nat) (x1 : Int) (A : St) (z : Int) : Nat → Int → Int → Prop
  | 0, _, _ => False
  | nn9 + 1, z1, z2 => tr_d_X9_keysOf_1 ta x1 A z (fun z1 z2 => d_X9_keysOf_1 ta x1 A z nn9 z1 z2) z1 z2
theorem u_d_X9_keysOf_1 {ta : Nat} {x1 : Int} {A : St} {z : Int} {nn9 : Nat} {z1 : Int} {z2 : Int} (h : tr_d_X9_keysOf_1 ta x1 A z (fun z1 z2 => d_X9_keysOf_1 ta x1 A z nn9 z1 z2) z1 z2) : d_X9_keysOf_1 ta x1 A z (nn9 + 1) z1 z2 := h
abbrev tr_r_X9_keysOf (ta : Nat) (x1 : Int) (A : St) (z : Int) : Prop := (∃ nn9 : Nat, d_X9_keysOf_1 ta x1 A z nn9 0 0)
def r_X9_keysOf (ta : Nat) (x1 : Int) (A : St) (z : Int) : Prop := tr_r_X9_keysOf ta x1 A z
theorem u_r_X9_keysOf {ta : Nat} {x1 : Int} {A : St} {z : Int} (h : tr_r_X9_keysOf ta x1 A z) : r_X9_keysOf ta x1 A z := h
def q_X9_keysOf (ta : Nat) (x1 : Int) (A : St) (z : Int) : Prop := r_X9_keysOf ta x1 A z ∧ (-2147483648 ≤ z ∧ z ≤ 2147483647)
def ws_kc_X9_keysOf : List Cond := .code yX9_keysOf cX9_keysOf 4 (some .int) :: WY
set_option maxHeartbeats 4000000 in
set_option maxRecDepth 100000 in
theorem kc_X9_keysOf (l : Launch) (dC : Nat → ClassId) (dI : Nat → Nat → Nat) (cB cI cJ cZ cQ : ClassId) (aL aS : Nat) (q : Nat → Nat) (A : St) (ta : Nat) (x1 : Int) (hI : IK A) (hta : isT ta) (hx1 : (-2147483648 : Int) ≤ x1 ∧ x1 ≤ 2147483647) : KMi l yX9_keysOf ws_kc_X9_keysOf ({ frames := 0, cells := 0, slots := 0, locals := 0 } : Room) aL aS (dC, dI) (tyA cB cI cJ cZ cQ) (WK cB cI cJ cZ cQ q) A [.ref (q ta), .int (iI x1)] (fun z u => A = u ∧ r_X9_keysOf ta x1 A z ∧ (-2147483648 ≤ z ∧ z ≤ 2147483647)) := by
  refine k_meti (cc := cX9_keysOf) (maxL := 4) WK_adr (plainFor_of_name (by decide +kernel)) rfl (Nat.le_of_ble_eq_true rfl) (fun p e s m below meth c Q AS ls hx hb hml hown hts hK hDD hA0 hE RET H locs hP hS hl => ?_)
  have hown : s.vm.findClass RX9 = some m.cls := hown
  have hl : lv_has ls 4 [(0, .ref (q ta)), (1, .int (iI x1))] := hl
  have hiX9 : ∀ w ∈ u_ws RX9 TX9 16, w ∈ ws_kc_X9_keysOf := fun w h => List.mem_cons_of_mem _ (wy_layX9 w h)
  have hiX6 : ∀ w ∈ u_ws RX6 TX6 4, w ∈ ws_kc_X9_keysOf := fun w h => List.mem_cons_of_mem _ (wy_layX6 w h)
  refine lv_iconst (v := iI 0) hx hb (dk_at dkX9_keysOf_0 0 rfl) (by decide +kernel) ?_
  refine lv_istore_n (lv' := [(2, .int (iI 0)), (0, .ref (q ta)), (1, .int (iI x1))]) hx hb (dk_at dkX9_keysOf_0 1 rfl) rfl hl (by decide) rfl (fun ls hl => ?_)
  refine lv_iconst (v := iI 0) hx hb (dk_at dkX9_keysOf_0 2 rfl) (by decide +kernel) ?_
  refine lv_istore_n (lv' := [(3, .int (iI 0)), (2, .int (iI 0)), (0, .ref (q ta)), (1, .int (iI x1))]) hx hb (dk_at dkX9_keysOf_0 3 rfl) rfl hl (by decide) rfl (fun ls hl => ?_)
  have L4_4 : ∀ (n9 : Nat) (z1 z2 : Int) (H : Heap) (locs : List Loc) (ls : Array Slot), (0 ≤ z1 ∧ z1 ≤ 2147483647) → (-2147483648 ≤ z2 ∧ z2 ≤ 2147483647) → (∀ (z : Int), (∃ mm1 : Nat, (d_X9_keysOf_1 ta x1 A z mm1 z1 z2)) → r_X9_keysOf ta x1 A z) → ((5 - z1).toNat = n9) → va_P (dC, dI) vwCl (WK cB cI cJ cZ cQ q A) H → va_S AS s.heap H locs → lv_has ls 4 [(3, .int (iI z1)), (2, .int (iI z2)), (0, .ref (q ta)), (1, .int (iI x1))] → W p l e (headSpec ws_kc_X9_keysOf ({ frames := 0, cells := 0, slots := 0, locals := 0 } : Room)).room s m [.ref (q ta), .int (iI x1)].toArray below meth c H locs 0 0 Q (F0 m 4 ls []) := by
    intro n9
    induction n9 using Nat.strongRecOn with
    | ind n9 ih5 =>
      intro z1 z2 H locs ls f6 f7 hk1 hn9 hP hS hl
      refine lv_iload_n hx hb (dk_at dkX9_keysOf_0 4 rfl) rfl (lv_at hl 0 rfl) ?_
      refine lv_aload_n hx hb (dk_at dkX9_keysOf_0 5 rfl) rfl (lv_at hl 2 rfl) ?_
      refine va_get (D := (dC, dI)) (ci := 9) (v := .ref (q (ta + 1))) (C := RX9) (T := TX9) (N := 16) hx hb hts hiX9 hown hK hP ta (wkT hta) rfl 0 (by decide) (hts _ (List.mem_cons_of_mem _ wkq_0_8)) (fun _ h9 => h9) rfl (dk_at dkX9_keysOf_0 6 rfl) ?_
      refine lv_iconst (v := iI 2) hx hb (dk_at dkX9_keysOf_0 7 rfl) (by decide +kernel) ?_
      refine x_iald (Wf := WK cB cI cJ cZ cQ q) hx hb hK hP (ta + 1) 1 (wkTc hta) rfl (by decide) (by decide) (dk_at dkX9_keysOf_0 8 rfl) (fun z10 hz10 => ?_)
      have rz10 : (0 : Int) ≤ z10 ∧ z10 ≤ 4 := by rw [hz10]; exact irTc2 hta hI
      have gz10 := Hd.mk hz10
      refine lv_icmp_ge (tgt := 39) hx hb (dk_at dkX9_keysOf_0 9 rfl) (by decide) (fun c11 => ?_) (fun c11 => ?_)
      · have c11 : z10 ≤ z1 := (i_le (rb rz10 (by decide) (by decide)) (rb f6 (by decide) (by decide))).mp c11
        refine lv_iload_n hx hb (dk_at dkX9_keysOf_1 9 rfl) rfl (lv_at hl 1 rfl) ?_
        exact RET z2 _ _ _ _ _ ⟨rfl, hk1 _ ⟨0 + 1, (u_d_X9_keysOf_1 ⟨f6, ⟨f7, ⟨z10, gz10.out, (Or.inl ⟨c11, rfl⟩)⟩⟩⟩)⟩, f7⟩ hP hS (dk_at dkX9_keysOf_1 10 rfl)
      · have c11 : ¬ z10 ≤ z1 := mt (i_le (rb rz10 (by decide) (by decide)) (rb f6 (by decide) (by decide))).mpr c11
        refine lv_aload_n hx hb (dk_at dkX9_keysOf_0 10 rfl) rfl (lv_at hl 2 rfl) ?_
        refine va_get (D := (dC, dI)) (ci := 9) (v := .ref (q (ta + 22))) (C := RX9) (T := TX9) (N := 16) hx hb hts hiX9 hown hK hP ta (wkT hta) rfl 14 (by decide) (hts _ (List.mem_cons_of_mem _ wkq_0_9)) (fun _ h9 => h9) rfl (dk_at dkX9_keysOf_0 11 rfl) ?_
        refine va_get (D := (dC, dI)) (ci := 6) (v := .ref (q ((ta + 22) + 2))) (C := RX6) (T := TX6) (N := 4) hx hb hts hiX6 hown hK hP (ta + 22) (wkS hta.s) rfl 1 (by decide) (hts _ (List.mem_cons_of_mem _ wkq_0_10)) (fun _ h9 => h9) rfl (dk_at dkX9_keysOf_0 12 rfl) ?_
        refine lv_iload_n hx hb (dk_at dkX9_keysOf_0 13 rfl) rfl (lv_at hl 0 rfl) ?_
        refine x_iald (Wf := WK cB cI cJ cZ cQ q) hx hb hK hP ((ta + 22) + 2) 1 (wkSw hta.s) rfl (by omega) (by decide) (dk_at dkX9_keysOf_0 14 rfl) (fun z12 hz12 => ?_)
        have rz12 : (-2147483648 : Int) ≤ z12 ∧ z12 ≤ 2147483647 := by rw [hz12]; exact irSw hta.s hI
        have gz12 := Hd.mk hz12
        refine lv_iload_n hx hb (dk_at dkX9_keysOf_0 15 rfl) rfl (lv_at hl 3 rfl) ?_
        have J33_14 : ∀ (z17 : Int) (H : Heap) (locs : List Loc) (ls : Array Slot), (-2147483648 ≤ z17 ∧ z17 ≤ 2147483647) → (∀ (z : Int), (∃ mm1 : Nat, (d_X9_keysOf_2 (fun z1' z2' => d_X9_keysOf_1 ta x1 A z mm1 z1' z2') z1 z z17)) → r_X9_keysOf ta x1 A z) → va_P (dC, dI) vwCl (WK cB cI cJ cZ cQ q A) H → va_S AS s.heap H locs → lv_has ls 4 [(3, .int (iI z1)), (2, .int (iI z17)), (0, .ref (q ta)), (1, .int (iI x1))] → W p l e (headSpec ws_kc_X9_keysOf ({ frames := 0, cells := 0, slots := 0, locals := 0 } : Room)).room s m [.ref (q ta), .int (iI x1)].toArray below meth c H locs 0 0 Q (F0 m 33 ls []) := by
          intro z17 H locs ls f19 hk2 hP hS hl
          refine lv_iinc (v := iI (z1 + 1)) (lv' := [(3, .int (iI (z1 + 1))), (2, .int (iI z17)), (0, .ref (q ta)), (1, .int (iI x1))]) hx hb (dk_at dkX9_keysOf_1 7 rfl) hl (k := 0) rfl (i_inc (by omega)) (by decide) rfl (fun ls hl => ?_)
          refine lv_goto (tgt := 4) hx hb (dk_at dkX9_keysOf_1 8 rfl) (by decide) ?_
          exact ih5 _ (by omega) (z1 + 1) z17 _ _ _ (by omega) (by omega) (fun zq ⟨mm1, hq⟩ => hk2 _ ⟨mm1, (u_d_X9_keysOf_2 ⟨f19, hq⟩)⟩) rfl hP hS (lv_sub hl [0, 1, 2, 3] rfl)
        refine lv_icmp_ne (tgt := 33) hx hb (dk_at dkX9_keysOf_1 0 rfl) (by decide) (fun c13 => ?_) (fun c13 => ?_)
        · have c13 : ¬ z12 = x1 := mt (i_eq rz12 hx1).mpr c13
          exact J33_14 z2 _ _ _ (by omega) (fun zq ⟨mm1, hq⟩ => hk1 _ ⟨mm1 + 1, (u_d_X9_keysOf_1 ⟨f6, ⟨f7, ⟨z10, gz10.out, (Or.inr ⟨c11, ⟨z12, gz12.out, (Or.inl ⟨c13, hq⟩)⟩⟩)⟩⟩⟩)⟩) hP hS (lv_sub hl [0, 1, 2, 3] rfl)
        · have c13 : z12 = x1 := (i_eq rz12 hx1).mp c13
          refine lv_iload_n hx hb (dk_at dkX9_keysOf_1 1 rfl) rfl (lv_at hl 1 rfl) ?_
          refine lv_iconst (v := iI 1) hx hb (dk_at dkX9_keysOf_1 2 rfl) (by decide +kernel) ?_
          refine lv_iload_n hx hb (dk_at dkX9_keysOf_1 3 rfl) rfl (lv_at hl 0 rfl) ?_
          refine lv_ishl hx hb (dk_at dkX9_keysOf_1 4 rfl) ?_
          refine x_absE (fun z15 gz15 hz15 => ?_)
          refine lv_ior hx hb (dk_at dkX9_keysOf_1 5 rfl) ?_
          refine x_absE (fun z16 gz16 hz16 => ?_)
          refine lv_istore_n (lv' := [(2, .int (iI z16)), (3, .int (iI z1)), (0, .ref (q ta)), (1, .int (iI x1))]) hx hb (dk_at dkX9_keysOf_1 6 rfl) rfl hl (by decide) rfl (fun ls hl => ?_)
          exact J33_14 z16 _ _ _ (by omega) (fun zq ⟨mm1, hq⟩ => hk1 _ ⟨mm1 + 1, (u_d_X9_keysOf_1 ⟨f6, ⟨f7, ⟨z10, gz10.out, (Or.inr ⟨c11, ⟨z12, gz12.out, (Or.inr ⟨c13, ⟨z15, gz15.out, ⟨z16, gz16.out, hq⟩⟩⟩)⟩⟩)⟩⟩⟩)⟩) hP hS (lv_sub hl [1, 0, 2, 3] rfl)
  exact L4_4 _ 0 0 _ _ _ (by omega) (by omega) (fun zq ⟨mm1, hq⟩ => (u_r_X9_keysOf ⟨mm1, hq⟩)) rfl hP hS (lv_sub hl [0, 1, 2, 3] rfl)

abbrev tr_r_X9_isThere_1_0 (ta : Nat) (x2 : Int) (A : St) (z : Int) : Prop := (((x2 < 0) ∧ (z = 0)) ∨ ((¬ x2 < 0) ∧ (∃ z4 : Int, z4 = A (ta + 1) (0 : Int).toNat ∧ (((z4 ≤ x2) ∧ (z = 0)) ∨ ((¬ z4 ≤ x2) ∧ (z = 1))))))
def r_X9_isThere_1_0 (ta : Nat) (x2 : Int) (A : St) (z : Int) : Prop := tr_r_X9_isThere_1_0 ta x2 A z
theorem u_r_X9_isThere_1_0 {ta : Nat} {x2 : Int} {A : St} {z : Int} (h : tr_r_X9_isThere_1_0 ta x2 A z) : r_X9_isThere_1_0 ta x2 A z := h
def q_X9_isThere_1_0 (ta : Nat) (x2 : Int) (A : St) (z : Int) : Prop := r_X9_isThere_1_0 ta x2 A z ∧ ((0 ≤ z ∧ z ≤ 1) ∧ (z = 1 → 0 ≤ x2 ∧ x2 ≤ 7))
def ws_kc_X9_isThere_1_0 : List Cond := .code yX9_isThere cX9_isThere 3 (some .boolean) :: WY
set_option maxHeartbeats 4000000 in
set_option maxRecDepth 100000 in
theorem kc_X9_isThere_1_0 (l : Launch) (dC : Nat → ClassId) (dI : Nat → Nat → Nat) (cB cI cJ cZ cQ : ClassId) (aL aS : Nat) (q : Nat → Nat) (A : St) (ta : Nat) (x2 : Int) (hI : IK A) (hta : isT ta) (hx2 : (-2147483648 : Int) ≤ x2 ∧ x2 ≤ 2147483647) : KMi l yX9_isThere ws_kc_X9_isThere_1_0 ({ frames := 0, cells := 0, slots := 0, locals := 0 } : Room) aL aS (dC, dI) (tyA cB cI cJ cZ cQ) (WK cB cI cJ cZ cQ q) A [.ref (q ta), .int (iI 0), .int (iI x2)] (fun z u => A = u ∧ r_X9_isThere_1_0 ta x2 A z ∧ ((0 ≤ z ∧ z ≤ 1) ∧ (z = 1 → 0 ≤ x2 ∧ x2 ≤ 7))) := by
  refine k_metz (cc := cX9_isThere) (maxL := 3) WK_adr (plainFor_of_name (by decide +kernel)) rfl (Nat.le_of_ble_eq_true rfl) (fun z u h => h.2.2.1) (fun p e s m below meth c Q AS ls hx hb hml hown hts hK hDD hA0 hE RET H locs hP hS hl => ?_)
  have hown : s.vm.findClass RX9 = some m.cls := hown
  have hl : lv_has ls 3 [(0, .ref (q ta)), (1, .int (iI 0)), (2, .int (iI x2))] := hl
  have hiX9 : ∀ w ∈ u_ws RX9 TX9 16, w ∈ ws_kc_X9_isThere_1_0 := fun w h => List.mem_cons_of_mem _ (wy_layX9 w h)
  refine lv_iload_n hx hb (dk_at dkX9_isThere_0 0 rfl) rfl (lv_at hl 1 rfl) ?_
  refine lv_if_lt (tgt := 28) hx hb (dk_at dkX9_isThere_0 1 rfl) (by decide) (fun c1 => absurd c1 (by decide +kernel)) (fun _ => ?_)
  refine lv_iload_n hx hb (dk_at dkX9_isThere_0 2 rfl) rfl (lv_at hl 1 rfl) ?_
  refine lv_bipush (v := iI 8) hx hb (dk_at dkX9_isThere_0 3 rfl) (by decide +kernel) ?_
  refine lv_icmp_ge (tgt := 28) hx hb (dk_at dkX9_isThere_0 4 rfl) (by decide) (fun c2 => absurd c2 (by decide +kernel)) (fun _ => ?_)
  refine lv_iload_n hx hb (dk_at dkX9_isThere_0 5 rfl) rfl (lv_at hl 2 rfl) ?_
  refine lv_if_lt (tgt := 28) hx hb (dk_at dkX9_isThere_0 6 rfl) (by decide) (fun c3 => ?_) (fun c3 => ?_)
  · have c3 : x2 < 0 := (i_lt0 hx2).mp c3
    refine lv_iconst (v := iI 0) hx hb (dk_at dkX9_isThere_0 15 rfl) (by decide +kernel) ?_
    exact RET 0 _ _ _ _ _ ⟨rfl, (u_r_X9_isThere_1_0 (Or.inl ⟨c3, rfl⟩)), by omega⟩ hP hS (dk_at dkX9_isThere_1 0 rfl)
  · have c3 : ¬ x2 < 0 := mt (i_lt0 hx2).mpr c3
    refine lv_iload_n hx hb (dk_at dkX9_isThere_0 7 rfl) rfl (lv_at hl 2 rfl) ?_
    refine lv_aload_n hx hb (dk_at dkX9_isThere_0 8 rfl) rfl (lv_at hl 0 rfl) ?_
    refine va_get (D := (dC, dI)) (ci := 9) (v := .ref (q (ta + 1))) (C := RX9) (T := TX9) (N := 16) hx hb hts hiX9 hown hK hP ta (wkT hta) rfl 0 (by decide) (hts _ (List.mem_cons_of_mem _ wkq_0_8)) (fun _ h9 => h9) rfl (dk_at dkX9_isThere_0 9 rfl) ?_
    refine lv_iload_n hx hb (dk_at dkX9_isThere_0 10 rfl) rfl (lv_at hl 1 rfl) ?_
    refine x_iald (Wf := WK cB cI cJ cZ cQ q) hx hb hK hP (ta + 1) 1 (wkTc hta) rfl (by decide) (by decide) (dk_at dkX9_isThere_0 11 rfl) (fun z4 hz4 => ?_)
    have rz4 : (0 : Int) ≤ z4 ∧ z4 ≤ 8 := by rw [hz4]; exact irTc0 hta hI
    have gz4 := Hd.mk hz4
    refine lv_icmp_ge (tgt := 28) hx hb (dk_at dkX9_isThere_0 12 rfl) (by decide) (fun c5 => ?_) (fun c5 => ?_)
    · have c5 : z4 ≤ x2 := (i_le (rb rz4 (by decide) (by decide)) hx2).mp c5
      refine lv_iconst (v := iI 0) hx hb (dk_at dkX9_isThere_0 15 rfl) (by decide +kernel) ?_
      exact RET 0 _ _ _ _ _ ⟨rfl, (u_r_X9_isThere_1_0 (Or.inr ⟨c3, ⟨z4, gz4.out, (Or.inl ⟨c5, rfl⟩)⟩⟩)), by omega⟩ hP hS (dk_at dkX9_isThere_1 0 rfl)
    · have c5 : ¬ z4 ≤ x2 := mt (i_le (rb rz4 (by decide) (by decide)) hx2).mpr c5
      refine lv_iconst (v := iI 1) hx hb (dk_at dkX9_isThere_0 13 rfl) (by decide +kernel) ?_
      refine lv_goto (tgt := 29) hx hb (dk_at dkX9_isThere_0 14 rfl) (by decide) ?_
      exact RET 1 _ _ _ _ _ ⟨rfl, (u_r_X9_isThere_1_0 (Or.inr ⟨c3, ⟨z4, gz4.out, (Or.inr ⟨c5, rfl⟩)⟩⟩)), by omega⟩ hP hS (dk_at dkX9_isThere_1 0 rfl)

abbrev tr_r_X9_isThere_1_1 (ta : Nat) (x2 : Int) (A : St) (z : Int) : Prop := (((x2 < 0) ∧ (z = 0)) ∨ ((¬ x2 < 0) ∧ (∃ z4 : Int, z4 = A (ta + 1) (1 : Int).toNat ∧ (((z4 ≤ x2) ∧ (z = 0)) ∨ ((¬ z4 ≤ x2) ∧ (z = 1))))))
def r_X9_isThere_1_1 (ta : Nat) (x2 : Int) (A : St) (z : Int) : Prop := tr_r_X9_isThere_1_1 ta x2 A z
theorem u_r_X9_isThere_1_1 {ta : Nat} {x2 : Int} {A : St} {z : Int} (h : tr_r_X9_isThere_1_1 ta x2 A z) : r_X9_isThere_1_1 ta x2 A z := h
def q_X9_isThere_1_1 (ta : Nat) (x2 : Int) (A : St) (z : Int) : Prop := r_X9_isThere_1_1 ta x2 A z ∧ ((0 ≤ z ∧ z ≤ 1) ∧ (z = 1 → 0 ≤ x2 ∧ x2 ≤ 9))
def ws_kc_X9_isThere_1_1 : List Cond := .code yX9_isThere cX9_isThere 3 (some .boolean) :: WY
set_option maxHeartbeats 4000000 in
set_option maxRecDepth 100000 in
theorem kc_X9_isThere_1_1 (l : Launch) (dC : Nat → ClassId) (dI : Nat → Nat → Nat) (cB cI cJ cZ cQ : ClassId) (aL aS : Nat) (q : Nat → Nat) (A : St) (ta : Nat) (x2 : Int) (hI : IK A) (hta : isT ta) (hx2 : (-2147483648 : Int) ≤ x2 ∧ x2 ≤ 2147483647) : KMi l yX9_isThere ws_kc_X9_isThere_1_1 ({ frames := 0, cells := 0, slots := 0, locals := 0 } : Room) aL aS (dC, dI) (tyA cB cI cJ cZ cQ) (WK cB cI cJ cZ cQ q) A [.ref (q ta), .int (iI 1), .int (iI x2)] (fun z u => A = u ∧ r_X9_isThere_1_1 ta x2 A z ∧ ((0 ≤ z ∧ z ≤ 1) ∧ (z = 1 → 0 ≤ x2 ∧ x2 ≤ 9))) := by
  refine k_metz (cc := cX9_isThere) (maxL := 3) WK_adr (plainFor_of_name (by decide +kernel)) rfl (Nat.le_of_ble_eq_true rfl) (fun z u h => h.2.2.1) (fun p e s m below meth c Q AS ls hx hb hml hown hts hK hDD hA0 hE RET H locs hP hS hl => ?_)
  have hown : s.vm.findClass RX9 = some m.cls := hown
  have hl : lv_has ls 3 [(0, .ref (q ta)), (1, .int (iI 1)), (2, .int (iI x2))] := hl
  have hiX9 : ∀ w ∈ u_ws RX9 TX9 16, w ∈ ws_kc_X9_isThere_1_1 := fun w h => List.mem_cons_of_mem _ (wy_layX9 w h)
  refine lv_iload_n hx hb (dk_at dkX9_isThere_0 0 rfl) rfl (lv_at hl 1 rfl) ?_
  refine lv_if_lt (tgt := 28) hx hb (dk_at dkX9_isThere_0 1 rfl) (by decide) (fun c1 => absurd c1 (by decide +kernel)) (fun _ => ?_)
  refine lv_iload_n hx hb (dk_at dkX9_isThere_0 2 rfl) rfl (lv_at hl 1 rfl) ?_
  refine lv_bipush (v := iI 8) hx hb (dk_at dkX9_isThere_0 3 rfl) (by decide +kernel) ?_
  refine lv_icmp_ge (tgt := 28) hx hb (dk_at dkX9_isThere_0 4 rfl) (by decide) (fun c2 => absurd c2 (by decide +kernel)) (fun _ => ?_)
  refine lv_iload_n hx hb (dk_at dkX9_isThere_0 5 rfl) rfl (lv_at hl 2 rfl) ?_
  refine lv_if_lt (tgt := 28) hx hb (dk_at dkX9_isThere_0 6 rfl) (by decide) (fun c3 => ?_) (fun c3 => ?_)
  · have c3 : x2 < 0 := (i_lt0 hx2).mp c3
    refine lv_iconst (v := iI 0) hx hb (dk_at dkX9_isThere_0 15 rfl) (by decide +kernel) ?_
    exact RET 0 _ _ _ _ _ ⟨rfl, (u_r_X9_isThere_1_1 (Or.inl ⟨c3, rfl⟩)), by omega⟩ hP hS (dk_at dkX9_isThere_1 0 rfl)
  · have c3 : ¬ x2 < 0 := mt (i_lt0 hx2).mpr c3
    refine lv_iload_n hx hb (dk_at dkX9_isThere_0 7 rfl) rfl (lv_at hl 2 rfl) ?_
    refine lv_aload_n hx hb (dk_at dkX9_isThere_0 8 rfl) rfl (lv_at hl 0 rfl) ?_
    refine va_get (D := (dC, dI)) (ci := 9) (v := .ref (q (ta + 1))) (C := RX9) (T := TX9) (N := 16) hx hb hts hiX9 hown hK hP ta (wkT hta) rfl 0 (by decide) (hts _ (List.mem_cons_of_mem _ wkq_0_8)) (fun _ h9 => h9) rfl (dk_at dkX9_isThere_0 9 rfl) ?_
    refine lv_iload_n hx hb (dk_at dkX9_isThere_0 10 rfl) rfl (lv_at hl 1 rfl) ?_
    refine x_iald (Wf := WK cB cI cJ cZ cQ q) hx hb hK hP (ta + 1) 1 (wkTc hta) rfl (by decide) (by decide) (dk_at dkX9_isThere_0 11 rfl) (fun z4 hz4 => ?_)
    have rz4 : (0 : Int) ≤ z4 ∧ z4 ≤ 10 := by rw [hz4]; exact irTc1 hta hI
    have gz4 := Hd.mk hz4
    refine lv_icmp_ge (tgt := 28) hx hb (dk_at dkX9_isThere_0 12 rfl) (by decide) (fun c5 => ?_) (fun c5 => ?_)
    · have c5 : z4 ≤ x2 := (i_le (rb rz4 (by decide) (by decide)) hx2).mp c5
      refine lv_iconst (v := iI 0) hx hb (dk_at dkX9_isThere_0 15 rfl) (by decide +kernel) ?_
      exact RET 0 _ _ _ _ _ ⟨rfl, (u_r_X9_isThere_1_1 (Or.inr ⟨c3, ⟨z4, gz4.out, (Or.inl ⟨c5, rfl⟩)⟩⟩)), by omega⟩ hP hS (dk_at dkX9_isThere_1 0 rfl)
    · have c5 : ¬ z4 ≤ x2 := mt (i_le (rb rz4 (by decide) (by decide)) hx2).mpr c5
      refine lv_iconst (v := iI 1) hx hb (dk_at dkX9_isThere_0 13 rfl) (by decide +kernel) ?_
      refine lv_goto (tgt := 29) hx hb (dk_at dkX9_isThere_0 14 rfl) (by decide) ?_
      exact RET 1 _ _ _ _ _ ⟨rfl, (u_r_X9_isThere_1_1 (Or.inr ⟨c3, ⟨z4, gz4.out, (Or.inr ⟨c5, rfl⟩)⟩⟩)), by omega⟩ hP hS (dk_at dkX9_isThere_1 0 rfl)

abbrev tr_r_X9_isThere_1_2 (ta : Nat) (x2 : Int) (A : St) (z : Int) : Prop := (((x2 < 0) ∧ (z = 0)) ∨ ((¬ x2 < 0) ∧ (∃ z4 : Int, z4 = A (ta + 1) (2 : Int).toNat ∧ (((z4 ≤ x2) ∧ (z = 0)) ∨ ((¬ z4 ≤ x2) ∧ (z = 1))))))
def r_X9_isThere_1_2 (ta : Nat) (x2 : Int) (A : St) (z : Int) : Prop := tr_r_X9_isThere_1_2 ta x2 A z
theorem u_r_X9_isThere_1_2 {ta : Nat} {x2 : Int} {A : St} {z : Int} (h : tr_r_X9_isThere_1_2 ta x2 A z) : r_X9_isThere_1_2 ta x2 A z := h
def q_X9_isThere_1_2 (ta : Nat) (x2 : Int) (A : St) (z : Int) : Prop := r_X9_isThere_1_2 ta x2 A z ∧ ((0 ≤ z ∧ z ≤ 1) ∧ (z = 1 → 0 ≤ x2 ∧ x2 ≤ 3))
def ws_kc_X9_isThere_1_2 : List Cond := .code yX9_isThere cX9_isThere 3 (some .boolean) :: WY
set_option maxHeartbeats 4000000 in
set_option maxRecDepth 100000 in
theorem kc_X9_isThere_1_2 (l : Launch) (dC : Nat → ClassId) (dI : Nat → Nat → Nat) (cB cI cJ cZ cQ : ClassId) (aL aS : Nat) (q : Nat → Nat) (A : St) (ta : Nat) (x2 : Int) (hI : IK A) (hta : isT ta) (hx2 : (-2147483648 : Int) ≤ x2 ∧ x2 ≤ 2147483647) : KMi l yX9_isThere ws_kc_X9_isThere_1_2 ({ frames := 0, cells := 0, slots := 0, locals := 0 } : Room) aL aS (dC, dI) (tyA cB cI cJ cZ cQ) (WK cB cI cJ cZ cQ q) A [.ref (q ta), .int (iI 2), .int (iI x2)] (fun z u => A = u ∧ r_X9_isThere_1_2 ta x2 A z ∧ ((0 ≤ z ∧ z ≤ 1) ∧ (z = 1 → 0 ≤ x2 ∧ x2 ≤ 3))) := by
  refine k_metz (cc := cX9_isThere) (maxL := 3) WK_adr (plainFor_of_name (by decide +kernel)) rfl (Nat.le_of_ble_eq_true rfl) (fun z u h => h.2.2.1) (fun p e s m below meth c Q AS ls hx hb hml hown hts hK hDD hA0 hE RET H locs hP hS hl => ?_)
  have hown : s.vm.findClass RX9 = some m.cls := hown
  have hl : lv_has ls 3 [(0, .ref (q ta)), (1, .int (iI 2)), (2, .int (iI x2))] := hl
  have hiX9 : ∀ w ∈ u_ws RX9 TX9 16, w ∈ ws_kc_X9_isThere_1_2 := fun w h => List.mem_cons_of_mem _ (wy_layX9 w h)
  refine lv_iload_n hx hb (dk_at dkX9_isThere_0 0 rfl) rfl (lv_at hl 1 rfl) ?_
  refine lv_if_lt (tgt := 28) hx hb (dk_at dkX9_isThere_0 1 rfl) (by decide) (fun c1 => absurd c1 (by decide +kernel)) (fun _ => ?_)
  refine lv_iload_n hx hb (dk_at dkX9_isThere_0 2 rfl) rfl (lv_at hl 1 rfl) ?_
  refine lv_bipush (v := iI 8) hx hb (dk_at dkX9_isThere_0 3 rfl) (by decide +kernel) ?_
  refine lv_icmp_ge (tgt := 28) hx hb (dk_at dkX9_isThere_0 4 rfl) (by decide) (fun c2 => absurd c2 (by decide +kernel)) (fun _ => ?_)
  refine lv_iload_n hx hb (dk_at dkX9_isThere_0 5 rfl) rfl (lv_at hl 2 rfl) ?_
  refine lv_if_lt (tgt := 28) hx hb (dk_at dkX9_isThere_0 6 rfl) (by decide) (fun c3 => ?_) (fun c3 => ?_)
  · have c3 : x2 < 0 := (i_lt0 hx2).mp c3
    refine lv_iconst (v := iI 0) hx hb (dk_at dkX9_isThere_0 15 rfl) (by decide +kernel) ?_
    exact RET 0 _ _ _ _ _ ⟨rfl, (u_r_X9_isThere_1_2 (Or.inl ⟨c3, rfl⟩)), by omega⟩ hP hS (dk_at dkX9_isThere_1 0 rfl)
  · have c3 : ¬ x2 < 0 := mt (i_lt0 hx2).mpr c3
    refine lv_iload_n hx hb (dk_at dkX9_isThere_0 7 rfl) rfl (lv_at hl 2 rfl) ?_
    refine lv_aload_n hx hb (dk_at dkX9_isThere_0 8 rfl) rfl (lv_at hl 0 rfl) ?_
    refine va_get (D := (dC, dI)) (ci := 9) (v := .ref (q (ta + 1))) (C := RX9) (T := TX9) (N := 16) hx hb hts hiX9 hown hK hP ta (wkT hta) rfl 0 (by decide) (hts _ (List.mem_cons_of_mem _ wkq_0_8)) (fun _ h9 => h9) rfl (dk_at dkX9_isThere_0 9 rfl) ?_
    refine lv_iload_n hx hb (dk_at dkX9_isThere_0 10 rfl) rfl (lv_at hl 1 rfl) ?_
    refine x_iald (Wf := WK cB cI cJ cZ cQ q) hx hb hK hP (ta + 1) 1 (wkTc hta) rfl (by decide) (by decide) (dk_at dkX9_isThere_0 11 rfl) (fun z4 hz4 => ?_)
    have rz4 : (0 : Int) ≤ z4 ∧ z4 ≤ 4 := by rw [hz4]; exact irTc2 hta hI
    have gz4 := Hd.mk hz4
    refine lv_icmp_ge (tgt := 28) hx hb (dk_at dkX9_isThere_0 12 rfl) (by decide) (fun c5 => ?_) (fun c5 => ?_)
    · have c5 : z4 ≤ x2 := (i_le (rb rz4 (by decide) (by decide)) hx2).mp c5
      refine lv_iconst (v := iI 0) hx hb (dk_at dkX9_isThere_0 15 rfl) (by decide +kernel) ?_
      exact RET 0 _ _ _ _ _ ⟨rfl, (u_r_X9_isThere_1_2 (Or.inr ⟨c3, ⟨z4, gz4.out, (Or.inl ⟨c5, rfl⟩)⟩⟩)), by omega⟩ hP hS (dk_at dkX9_isThere_1 0 rfl)
    · have c5 : ¬ z4 ≤ x2 := mt (i_le (rb rz4 (by decide) (by decide)) hx2).mpr c5
      refine lv_iconst (v := iI 1) hx hb (dk_at dkX9_isThere_0 13 rfl) (by decide +kernel) ?_
      refine lv_goto (tgt := 29) hx hb (dk_at dkX9_isThere_0 14 rfl) (by decide) ?_
      exact RET 1 _ _ _ _ _ ⟨rfl, (u_r_X9_isThere_1_2 (Or.inr ⟨c3, ⟨z4, gz4.out, (Or.inr ⟨c5, rfl⟩)⟩⟩)), by omega⟩ hP hS (dk_at dkX9_isThere_1 0 rfl)

abbrev tr_r_X9_isThere_1_3 (ta : Nat) (x2 : Int) (A : St) (z : Int) : Prop := (((x2 < 0) ∧ (z = 0)) ∨ ((¬ x2 < 0) ∧ (∃ z4 : Int, z4 = A (ta + 1) (3 : Int).toNat ∧ (((z4 ≤ x2) ∧ (z = 0)) ∨ ((¬ z4 ≤ x2) ∧ (z = 1))))))
def r_X9_isThere_1_3 (ta : Nat) (x2 : Int) (A : St) (z : Int) : Prop := tr_r_X9_isThere_1_3 ta x2 A z
theorem u_r_X9_isThere_1_3 {ta : Nat} {x2 : Int} {A : St} {z : Int} (h : tr_r_X9_isThere_1_3 ta x2 A z) : r_X9_isThere_1_3 ta x2 A z := h
def q_X9_isThere_1_3 (ta : Nat) (x2 : Int) (A : St) (z : Int) : Prop := r_X9_isThere_1_3 ta x2 A z ∧ ((0 ≤ z ∧ z ≤ 1) ∧ (z = 1 → 0 ≤ x2 ∧ x2 ≤ 2))
def ws_kc_X9_isThere_1_3 : List Cond := .code yX9_isThere cX9_isThere 3 (some .boolean) :: WY
set_option maxHeartbeats 4000000 in
set_option maxRecDepth 100000 in
theorem kc_X9_isThere_1_3 (l : Launch) (dC : Nat → ClassId) (dI : Nat → Nat → Nat) (cB cI cJ cZ cQ : ClassId) (aL aS : Nat) (q : Nat → Nat) (A : St) (ta : Nat) (x2 : Int) (hI : IK A) (hta : isT ta) (hx2 : (-2147483648 : Int) ≤ x2 ∧ x2 ≤ 2147483647) : KMi l yX9_isThere ws_kc_X9_isThere_1_3 ({ frames := 0, cells := 0, slots := 0, locals := 0 } : Room) aL aS (dC, dI) (tyA cB cI cJ cZ cQ) (WK cB cI cJ cZ cQ q) A [.ref (q ta), .int (iI 3), .int (iI x2)] (fun z u => A = u ∧ r_X9_isThere_1_3 ta x2 A z ∧ ((0 ≤ z ∧ z ≤ 1) ∧ (z = 1 → 0 ≤ x2 ∧ x2 ≤ 2))) := by
  refine k_metz (cc := cX9_isThere) (maxL := 3) WK_adr (plainFor_of_name (by decide +kernel)) rfl (Nat.le_of_ble_eq_true rfl) (fun z u h => h.2.2.1) (fun p e s m below meth c Q AS ls hx hb hml hown hts hK hDD hA0 hE RET H locs hP hS hl => ?_)
  have hown : s.vm.findClass RX9 = some m.cls := hown
  have hl : lv_has ls 3 [(0, .ref (q ta)), (1, .int (iI 3)), (2, .int (iI x2))] := hl
  have hiX9 : ∀ w ∈ u_ws RX9 TX9 16, w ∈ ws_kc_X9_isThere_1_3 := fun w h => List.mem_cons_of_mem _ (wy_layX9 w h)
  refine lv_iload_n hx hb (dk_at dkX9_isThere_0 0 rfl) rfl (lv_at hl 1 rfl) ?_
  refine lv_if_lt (tgt := 28) hx hb (dk_at dkX9_isThere_0 1 rfl) (by decide) (fun c1 => absurd c1 (by decide +kernel)) (fun _ => ?_)
  refine lv_iload_n hx hb (dk_at dkX9_isThere_0 2 rfl) rfl (lv_at hl 1 rfl) ?_
  refine lv_bipush (v := iI 8) hx hb (dk_at dkX9_isThere_0 3 rfl) (by decide +kernel) ?_
  refine lv_icmp_ge (tgt := 28) hx hb (dk_at dkX9_isThere_0 4 rfl) (by decide) (fun c2 => absurd c2 (by decide +kernel)) (fun _ => ?_)
  refine lv_iload_n hx hb (dk_at dkX9_isThere_0 5 rfl) rfl (lv_at hl 2 rfl) ?_
  refine lv_if_lt (tgt := 28) hx hb (dk_at dkX9_isThere_0 6 rfl) (by decide) (fun c3 => ?_) (fun c3 => ?_)
  · have c3 : x2 < 0 := (i_lt0 hx2).mp c3
    refine lv_iconst (v := iI 0) hx hb (dk_at dkX9_isThere_0 15 rfl) (by decide +kernel) ?_
    exact RET 0 _ _ _ _ _ ⟨rfl, (u_r_X9_isThere_1_3 (Or.inl ⟨c3, rfl⟩)), by omega⟩ hP hS (dk_at dkX9_isThere_1 0 rfl)
  · have c3 : ¬ x2 < 0 := mt (i_lt0 hx2).mpr c3
    refine lv_iload_n hx hb (dk_at dkX9_isThere_0 7 rfl) rfl (lv_at hl 2 rfl) ?_
    refine lv_aload_n hx hb (dk_at dkX9_isThere_0 8 rfl) rfl (lv_at hl 0 rfl) ?_
    refine va_get (D := (dC, dI)) (ci := 9) (v := .ref (q (ta + 1))) (C := RX9) (T := TX9) (N := 16) hx hb hts hiX9 hown hK hP ta (wkT hta) rfl 0 (by decide) (hts _ (List.mem_cons_of_mem _ wkq_0_8)) (fun _ h9 => h9) rfl (dk_at dkX9_isThere_0 9 rfl) ?_
    refine lv_iload_n hx hb (dk_at dkX9_isThere_0 10 rfl) rfl (lv_at hl 1 rfl) ?_
    refine x_iald (Wf := WK cB cI cJ cZ cQ q) hx hb hK hP (ta + 1) 1 (wkTc hta) rfl (by decide) (by decide) (dk_at dkX9_isThere_0 11 rfl) (fun z4 hz4 => ?_)
    have rz4 : (0 : Int) ≤ z4 ∧ z4 ≤ 3 := by rw [hz4]; exact irTc3 hta hI
    have gz4 := Hd.mk hz4
    refine lv_icmp_ge (tgt := 28) hx hb (dk_at dkX9_isThere_0 12 rfl) (by decide) (fun c5 => ?_) (fun c5 => ?_)
    · have c5 : z4 ≤ x2 := (i_le (rb rz4 (by decide) (by decide)) hx2).mp c5
      refine lv_iconst (v := iI 0) hx hb (dk_at dkX9_isThere_0 15 rfl) (by decide +kernel) ?_
      exact RET 0 _ _ _ _ _ ⟨rfl, (u_r_X9_isThere_1_3 (Or.inr ⟨c3, ⟨z4, gz4.out, (Or.inl ⟨c5, rfl⟩)⟩⟩)), by omega⟩ hP hS (dk_at dkX9_isThere_1 0 rfl)
    · have c5 : ¬ z4 ≤ x2 := mt (i_le (rb rz4 (by decide) (by decide)) hx2).mpr c5
      refine lv_iconst (v := iI 1) hx hb (dk_at dkX9_isThere_0 13 rfl) (by decide +kernel) ?_
      refine lv_goto (tgt := 29) hx hb (dk_at dkX9_isThere_0 14 rfl) (by decide) ?_
      exact RET 1 _ _ _ _ _ ⟨rfl, (u_r_X9_isThere_1_3 (Or.inr ⟨c3, ⟨z4, gz4.out, (Or.inr ⟨c5, rfl⟩)⟩⟩)), by omega⟩ hP hS (dk_at dkX9_isThere_1 0 rfl)

abbrev tr_r_X9_isThere_1_6 (ta : Nat) (x2 : Int) (A : St) (z : Int) : Prop := (((x2 < 0) ∧ (z = 0)) ∨ ((¬ x2 < 0) ∧ (∃ z4 : Int, z4 = A (ta + 1) (6 : Int).toNat ∧ (((z4 ≤ x2) ∧ (z = 0)) ∨ ((¬ z4 ≤ x2) ∧ (z = 1))))))
def r_X9_isThere_1_6 (ta : Nat) (x2 : Int) (A : St) (z : Int) : Prop := tr_r_X9_isThere_1_6 ta x2 A z
theorem u_r_X9_isThere_1_6 {ta : Nat} {x2 : Int} {A : St} {z : Int} (h : tr_r_X9_isThere_1_6 ta x2 A z) : r_X9_isThere_1_6 ta x2 A z := h
def q_X9_isThere_1_6 (ta : Nat) (x2 : Int) (A : St) (z : Int) : Prop := r_X9_isThere_1_6 ta x2 A z ∧ ((0 ≤ z ∧ z ≤ 1) ∧ (z = 1 → 0 ≤ x2 ∧ x2 ≤ 5))
def ws_kc_X9_isThere_1_6 : List Cond := .code yX9_isThere cX9_isThere 3 (some .boolean) :: WY
set_option maxHeartbeats 4000000 in
set_option maxRecDepth 100000 in
theorem kc_X9_isThere_1_6 (l : Launch) (dC : Nat → ClassId) (dI : Nat → Nat → Nat) (cB cI cJ cZ cQ : ClassId) (aL aS : Nat) (q : Nat → Nat) (A : St) (ta : Nat) (x2 : Int) (hI : IK A) (hta : isT ta) (hx2 : (-2147483648 : Int) ≤ x2 ∧ x2 ≤ 2147483647) : KMi l yX9_isThere ws_kc_X9_isThere_1_6 ({ frames := 0, cells := 0, slots := 0, locals := 0 } : Room) aL aS (dC, dI) (tyA cB cI cJ cZ cQ) (WK cB cI cJ cZ cQ q) A [.ref (q ta), .int (iI 6), .int (iI x2)] (fun z u => A = u ∧ r_X9_isThere_1_6 ta x2 A z ∧ ((0 ≤ z ∧ z ≤ 1) ∧ (z = 1 → 0 ≤ x2 ∧ x2 ≤ 5))) := by
  refine k_metz (cc := cX9_isThere) (maxL := 3) WK_adr (plainFor_of_name (by decide +kernel)) rfl (Nat.le_of_ble_eq_true rfl) (fun z u h => h.2.2.1) (fun p e s m below meth c Q AS ls hx hb hml hown hts hK hDD hA0 hE RET H locs hP hS hl => ?_)
  have hown : s.vm.findClass RX9 = some m.cls := hown
  have hl : lv_has ls 3 [(0, .ref (q ta)), (1, .int (iI 6)), (2, .int (iI x2))] := hl
  have hiX9 : ∀ w ∈ u_ws RX9 TX9 16, w ∈ ws_kc_X9_isThere_1_6 := fun w h => List.mem_cons_of_mem _ (wy_layX9 w h)
  refine lv_iload_n hx hb (dk_at dkX9_isThere_0 0 rfl) rfl (lv_at hl 1 rfl) ?_
  refine lv_if_lt (tgt := 28) hx hb (dk_at dkX9_isThere_0 1 rfl) (by decide) (fun c1 => absurd c1 (by decide +kernel)) (fun _ => ?_)
  refine lv_iload_n hx hb (dk_at dkX9_isThere_0 2 rfl) rfl (lv_at hl 1 rfl) ?_
  refine lv_bipush (v := iI 8) hx hb (dk_at dkX9_isThere_0 3 rfl) (by decide +kernel) ?_
  refine lv_icmp_ge (tgt := 28) hx hb (dk_at dkX9_isThere_0 4 rfl) (by decide) (fun c2 => absurd c2 (by decide +kernel)) (fun _ => ?_)
  refine lv_iload_n hx hb (dk_at dkX9_isThere_0 5 rfl) rfl (lv_at hl 2 rfl) ?_
  refine lv_if_lt (tgt := 28) hx hb (dk_at dkX9_isThere_0 6 rfl) (by decide) (fun c3 => ?_) (fun c3 => ?_)
  · have c3 : x2 < 0 := (i_lt0 hx2).mp c3
    refine lv_iconst (v := iI 0) hx hb (dk_at dkX9_isThere_0 15 rfl) (by decide +kernel) ?_
    exact RET 0 _ _ _ _ _ ⟨rfl, (u_r_X9_isThere_1_6 (Or.inl ⟨c3, rfl⟩)), by omega⟩ hP hS (dk_at dkX9_isThere_1 0 rfl)
  · have c3 : ¬ x2 < 0 := mt (i_lt0 hx2).mpr c3
    refine lv_iload_n hx hb (dk_at dkX9_isThere_0 7 rfl) rfl (lv_at hl 2 rfl) ?_
    refine lv_aload_n hx hb (dk_at dkX9_isThere_0 8 rfl) rfl (lv_at hl 0 rfl) ?_
    refine va_get (D := (dC, dI)) (ci := 9) (v := .ref (q (ta + 1))) (C := RX9) (T := TX9) (N := 16) hx hb hts hiX9 hown hK hP ta (wkT hta) rfl 0 (by decide) (hts _ (List.mem_cons_of_mem _ wkq_0_8)) (fun _ h9 => h9) rfl (dk_at dkX9_isThere_0 9 rfl) ?_
    refine lv_iload_n hx hb (dk_at dkX9_isThere_0 10 rfl) rfl (lv_at hl 1 rfl) ?_
    refine x_iald (Wf := WK cB cI cJ cZ cQ q) hx hb hK hP (ta + 1) 1 (wkTc hta) rfl (by decide) (by decide) (dk_at dkX9_isThere_0 11 rfl) (fun z4 hz4 => ?_)
    have rz4 : (0 : Int) ≤ z4 ∧ z4 ≤ 6 := by rw [hz4]; exact irTc6 hta hI
    have gz4 := Hd.mk hz4
    refine lv_icmp_ge (tgt := 28) hx hb (dk_at dkX9_isThere_0 12 rfl) (by decide) (fun c5 => ?_) (fun c5 => ?_)
    · have c5 : z4 ≤ x2 := (i_le (rb rz4 (by decide) (by decide)) hx2).mp c5
      refine lv_iconst (v := iI 0) hx hb (dk_at dkX9_isThere_0 15 rfl) (by decide +kernel) ?_
      exact RET 0 _ _ _ _ _ ⟨rfl, (u_r_X9_isThere_1_6 (Or.inr ⟨c3, ⟨z4, gz4.out, (Or.inl ⟨c5, rfl⟩)⟩⟩)), by omega⟩ hP hS (dk_at dkX9_isThere_1 0 rfl)
    · have c5 : ¬ z4 ≤ x2 := mt (i_le (rb rz4 (by decide) (by decide)) hx2).mpr c5
      refine lv_iconst (v := iI 1) hx hb (dk_at dkX9_isThere_0 13 rfl) (by decide +kernel) ?_
      refine lv_goto (tgt := 29) hx hb (dk_at dkX9_isThere_0 14 rfl) (by decide) ?_
      exact RET 1 _ _ _ _ _ ⟨rfl, (u_r_X9_isThere_1_6 (Or.inr ⟨c3, ⟨z4, gz4.out, (Or.inr ⟨c5, rfl⟩)⟩⟩)), by omega⟩ hP hS (dk_at dkX9_isThere_1 0 rfl)

abbrev tr_r_X9_isThere (ta : Nat) (x1 : Int) (x2 : Int) (A : St) (z : Int) : Prop := (((x1 < 0) ∧ (z = 0)) ∨ ((¬ x1 < 0) ∧ (((8 ≤ x1) ∧ (z = 0)) ∨ ((¬ 8 ≤ x1) ∧ (((x2 < 0) ∧ (z = 0)) ∨ ((¬ x2 < 0) ∧ (∃ z4 : Int, z4 = A (ta + 1) (x1).toNat ∧ (((z4 ≤ x2) ∧ (z = 0)) ∨ ((¬ z4 ≤ x2) ∧ (z = 1))))))))))
def r_X9_isThere (ta : Nat) (x1 : Int) (x2 : Int) (A : St) (z : Int) : Prop := tr_r_X9_isThere ta x1 x2 A z
theorem u_r_X9_isThere {ta : Nat} {x1 : Int} {x2 : Int} {A : St} {z : Int} (h : tr_r_X9_isThere ta x1 x2 A z) : r_X9_isThere ta x1 x2 A z := h
def q_X9_isThere (ta : Nat) (x1 : Int) (x2 : Int) (A : St) (z : Int) : Prop := r_X9_isThere ta x1 x2 A z ∧ ((0 ≤ z ∧ z ≤ 1) ∧ (z = 1 → 0 ≤ x1 ∧ x1 ≤ 7 ∧ 0 ≤ x2 ∧ x2 ≤ 9))
def ws_kc_X9_isThere : List Cond := .code yX9_isThere cX9_isThere 3 (some .boolean) :: WY
set_option maxHeartbeats 4000000 in
set_option maxRecDepth 100000 in
theorem kc_X9_isThere (l : Launch) (dC : Nat → ClassId) (dI : Nat → Nat → Nat) (cB cI cJ cZ cQ : ClassId) (aL aS : Nat) (q : Nat → Nat) (A : St) (ta : Nat) (x1 x2 : Int) (hI : IK A) (hta : isT ta) (hx1 : (-2147483648 : Int) ≤ x1 ∧ x1 ≤ 2147483647) (hx2 : (-2147483648 : Int) ≤ x2 ∧ x2 ≤ 2147483647) : KMi l yX9_isThere ws_kc_X9_isThere ({ frames := 0, cells := 0, slots := 0, locals := 0 } : Room) aL aS (dC, dI) (tyA cB cI cJ cZ cQ) (WK cB cI cJ cZ cQ q) A [.ref (q ta), .int (iI x1), .int (iI x2)] (fun z u => A = u ∧ r_X9_isThere ta x1 x2 A z ∧ ((0 ≤ z ∧ z ≤ 1) ∧ (z = 1 → 0 ≤ x1 ∧ x1 ≤ 7 ∧ 0 ≤ x2 ∧ x2 ≤ 9))) := by
  refine k_metz (cc := cX9_isThere) (maxL := 3) WK_adr (plainFor_of_name (by decide +kernel)) rfl (Nat.le_of_ble_eq_true rfl) (fun z u h => h.2.2.1) (fun p e s m below meth c Q AS ls hx hb hml hown hts hK hDD hA0 hE RET H locs hP hS hl => ?_)
  have hown : s.vm.findClass RX9 = some m.cls := hown
  have hl : lv_has ls 3 [(0, .ref (q ta)), (1, .int (iI x1)), (2, .int (iI x2))] := hl
  have hiX9 : ∀ w ∈ u_ws RX9 TX9 16, w ∈ ws_kc_X9_isThere := fun w h => List.mem_cons_of_mem _ (wy_layX9 w h)
  refine lv_iload_n hx hb (dk_at dkX9_isThere_0 0 rfl) rfl (lv_at hl 1 rfl) ?_
  refine lv_if_lt (tgt := 28) hx hb (dk_at dkX9_isThere_0 1 rfl) (by decide) (fun c1 => ?_) (fun c1 => ?_)
  · have c1 : x1 < 0 := (i_lt0 hx1).mp c1
    refine lv_iconst (v := iI 0) hx hb (dk_at dkX9_isThere_0 15 rfl) (by decide +kernel) ?_
    exact RET 0 _ _ _ _ _ ⟨rfl, (u_r_X9_isThere (Or.inl ⟨c1, rfl⟩)), by omega⟩ hP hS (dk_at dkX9_isThere_1 0 rfl)
  · have c1 : ¬ x1 < 0 := mt (i_lt0 hx1).mpr c1
    refine lv_iload_n hx hb (dk_at dkX9_isThere_0 2 rfl) rfl (lv_at hl 1 rfl) ?_
    refine lv_bipush (v := iI 8) hx hb (dk_at dkX9_isThere_0 3 rfl) (by decide +kernel) ?_
    refine lv_icmp_ge (tgt := 28) hx hb (dk_at dkX9_isThere_0 4 rfl) (by decide) (fun c2 => ?_) (fun c2 => ?_)
    · have c2 : 8 ≤ x1 := (i_le ⟨by decide, by decide⟩ hx1).mp c2
      refine lv_iconst (v := iI 0) hx hb (dk_at dkX9_isThere_0 15 rfl) (by decide +kernel) ?_
      exact RET 0 _ _ _ _ _ ⟨rfl, (u_r_X9_isThere (Or.inr ⟨c1, (Or.inl ⟨c2, rfl⟩)⟩)), by omega⟩ hP hS (dk_at dkX9_isThere_1 0 rfl)
    · have c2 : ¬ 8 ≤ x1 := mt (i_le ⟨by decide, by decide⟩ hx1).mpr c2
      refine lv_iload_n hx hb (dk_at dkX9_isThere_0 5 rfl) rfl (lv_at hl 2 rfl) ?_
      refine lv_if_lt (tgt := 28) hx hb (dk_at dkX9_isThere_0 6 rfl) (by decide) (fun c3 => ?_) (fun c3 => ?_)
      · have c3 : x2 < 0 := (i_lt0 hx2).mp c3
        refine lv_iconst (v := iI 0) hx hb (dk_at dkX9_isThere_0 15 rfl) (by decide +kernel) ?_
        exact RET 0 _ _ _ _ _ ⟨rfl, (u_r_X9_isThere (Or.inr ⟨c1, (Or.inr ⟨c2, (Or.inl ⟨c3, rfl⟩)⟩)⟩)), by omega⟩ hP hS (dk_at dkX9_isThere_1 0 rfl)
      · have c3 : ¬ x2 < 0 := mt (i_lt0 hx2).mpr c3
        refine lv_iload_n hx hb (dk_at dkX9_isThere_0 7 rfl) rfl (lv_at hl 2 rfl) ?_
        refine lv_aload_n hx hb (dk_at dkX9_isThere_0 8 rfl) rfl (lv_at hl 0 rfl) ?_
        refine va_get (D := (dC, dI)) (ci := 9) (v := .ref (q (ta + 1))) (C := RX9) (T := TX9) (N := 16) hx hb hts hiX9 hown hK hP ta (wkT hta) rfl 0 (by decide) (hts _ (List.mem_cons_of_mem _ wkq_0_8)) (fun _ h9 => h9) rfl (dk_at dkX9_isThere_0 9 rfl) ?_
        refine lv_iload_n hx hb (dk_at dkX9_isThere_0 10 rfl) rfl (lv_at hl 1 rfl) ?_
        refine x_iald (Wf := WK cB cI cJ cZ cQ q) hx hb hK hP (ta + 1) 1 (wkTc hta) rfl (by omega) (by decide) (dk_at dkX9_isThere_0 11 rfl) (fun z4 hz4 => ?_)
        have rz4 : (0 : Int) ≤ z4 ∧ z4 ≤ 10 := by rw [hz4]; exact irTc hta hI
        have gz4 := Hd.mk hz4
        refine lv_icmp_ge (tgt := 28) hx hb (dk_at dkX9_isThere_0 12 rfl) (by decide) (fun c5 => ?_) (fun c5 => ?_)
        · have c5 : z4 ≤ x2 := (i_le (rb rz4 (by decide) (by decide)) hx2).mp c5
          refine lv_iconst (v := iI 0) hx hb (dk_at dkX9_isThere_0 15 rfl) (by decide +kernel) ?_
          exact RET 0 _ _ _ _ _ ⟨rfl, (u_r_X9_isThere (Or.inr ⟨c1, (Or.inr ⟨c2, (Or.inr ⟨c3, ⟨z4, gz4.out, (Or.inl ⟨c5, rfl⟩)⟩⟩)⟩)⟩)), by omega⟩ hP hS (dk_at dkX9_isThere_1 0 rfl)
        · have c5 : ¬ z4 ≤ x2 := mt (i_le (rb rz4 (by decide) (by decide)) hx2).mpr c5
          refine lv_iconst (v := iI 1) hx hb (dk_at dkX9_isThere_0 13 rfl) (by decide +kernel) ?_
          refine lv_goto (tgt := 29) hx hb (dk_at dkX9_isThere_0 14 rfl) (by decide) ?_
          exact RET 1 _ _ _ _ _ ⟨rfl, (u_r_X9_isThere (Or.inr ⟨c1, (Or.inr ⟨c2, (Or.inr ⟨c3, ⟨z4, gz4.out, (Or.inr ⟨c5, rfl⟩)⟩⟩)⟩)⟩)), by omega⟩ hP hS (dk_at dkX9_isThere_1 0 rfl)

abbrev tr_d_X0_prepareWants_2 (K1 : Int → St → Prop) (z5 : Int) (u : St) (A36 : St) : Prop := ((IK A36) ∧ (K1 (z5 + 1) A36))
def d_X0_prepareWants_2 (K1 : Int → St → Prop) (z5 : Int) (u : St) (A36 : St) : Prop := tr_d_X0_prepareWants_2 K1 z5 u A36
theorem u_d_X0_prepareWants_2 {K1 : Int → St → Prop} {z5 : Int} {u : St} {A36 : St} (h : tr_d_X0_prepareWants_2 K1 z5 u A36) : d_X0_prepareWants_2 K1 z5 u A36 := h
abbrev tr_d_X0_prepareWants_1 (ta : Nat) (x2 : Int) (u : St) (K1 : Int → St → Prop) (z5 : Int) (A7 : St) : Prop := ((IK A7) ∧ ((0 ≤ z5 ∧ z5 ≤ 2147483647) ∧ (∃ z18 : Int, z18 = A7 (ta + 1) (4 : Int).toNat ∧ (((z18 ≤ z5) ∧ (u = A7)) ∨ ((¬ z18 ≤ z5) ∧ (∃ z22 : Int, z22 = A7 (ta + 12) (x2).toNat ∧ (∃ z23 : Int, z23 = oShr z22 z5 ∧ (∃ z24 : Int, z24 = oAnd z23 1 ∧ (((z24 = 0) ∧ (d_X0_prepareWants_2 K1 z5 u A7)) ∨ ((¬ z24 = 0) ∧ (((2 ≤ (A7 6 9)) ∧ (d_X0_prepareWants_2 K1 z5 u A7)) ∨ ((¬ 2 ≤ (A7 6 9)) ∧ (∃ z31 : Int, z31 = A7 (ta + 11) (z5).toNat ∧ (∃ A32 : St, A32 = stA A7 17 ((A7 6 9)).toNat z31 ∧ (∃ A34 : St, A34 = stA A32 6 9 ((A7 6 9) + 1) ∧ (d_X0_prepareWants_2 K1 z5 u A34))))))))))))))))
def d_X0_prepareWants_1 (ta : Nat) (x2 : Int) (u : St) : Nat → Int → St → Prop
  | 0, _, _ => False
  | nn9 + 1, z5, A7 => tr_d_X0_prepareWants_1 ta x2 u (fun z5 A7 => d_X0_prepareWants_1 ta x2 u nn9 z5 A7) z5 A7
theorem u_d_X0_prepareWants_1 {ta : Nat} {x2 : Int} {u : St} {nn9 : Nat} {z5 : Int} {A7 : St} (h : tr_d_X0_prepareWants_1 ta x2 u (fun z5 A7 => d_X0_prepareWants_1 ta x2 u nn9 z5 A7) z5 A7) : d_X0_prepareWants_1 ta x2 u (nn9 + 1) z5 A7 := h
abbrev tr_r_X0_prepareWants (ta : Nat) (x2 : Int) (A : St) (u : St) : Prop := (∃ A1 : St, A1 = stA A 6 9 0 ∧ ((((A 6 13) = 2) ∧ (∃ nn9 : Nat, d_X0_prepareWants_1 ta x2 u nn9 0 A1)) ∨ ((¬ (A 6 13) = 2) ∧ (u = A1))))
def r_X0_prepareWants (ta : Nat) (x2 : Int) (A : St) (u : St) : Prop := tr_r_X0_prepareWants ta x2 A u
theorem u_r_X0_prepareWants {ta : Nat} {x2 : Int} {A : St} {u : St} (h : tr_r_X0_prepareWants ta x2 A u) : r_X0_prepareWants ta x2 A u := h
def q_X0_prepareWants (ta : Nat) (x2 : Int) (A : St) (u : St) : Prop := r_X0_prepareWants ta x2 A u ∧ IK u ∧ fk [17] [(6, 9)] A u ∧ (True)
def ws_kc_X0_prepareWants : List Cond := .code yX0_prepareWants cX0_prepareWants 4 none :: WY
set_option maxHeartbeats 4000000 in
set_option maxRecDepth 100000 in
theorem kc_X0_prepareWants (l : Launch) (dC : Nat → ClassId) (dI : Nat → Nat → Nat) (cB cI cJ cZ cQ : ClassId) (aL aS : Nat) (q : Nat → Nat) (A : St) (ta : Nat) (x2 : Int) (hI : IK A) (hta : isT ta) (hx2 : (0 : Int) ≤ x2 ∧ x2 ≤ 2) : KMv l yX0_prepareWants ws_kc_X0_prepareWants ({ frames := 0, cells := 0, slots := 0, locals := 0 } : Room) aL aS (dC, dI) (tyA cB cI cJ cZ cQ) (WK cB cI cJ cZ cQ q) A [.ref (q 6), .ref (q ta), .int (iI x2)] (fun u => r_X0_prepareWants ta x2 A u ∧ IK u ∧ fk [17] [(6, 9)] A u ∧ (True)) := by
  refine k_metv (cc := cX0_prepareWants) (maxL := 4) WK_adr (plainFor_of_name (by decide +kernel)) rfl (Nat.le_of_ble_eq_true rfl) (fun p e s m below meth c Q AS ls hx hb hml hown hts hK hDD hA0 hE RET H locs hP hS hl => ?_)
  have hown : s.vm.findClass RX0 = some m.cls := hown
  have hl : lv_has ls 4 [(0, .ref (q 6)), (1, .ref (q ta)), (2, .int (iI x2))] := hl
  have hiX0 : ∀ w ∈ u_ws RX0 TX0 17, w ∈ ws_kc_X0_prepareWants := fun w h => List.mem_cons_of_mem _ (wy_layX0 w h)
  have hiX9 : ∀ w ∈ u_ws RX9 TX9 16, w ∈ ws_kc_X0_prepareWants := fun w h => List.mem_cons_of_mem _ (wy_layX9 w h)
  refine lv_aload_n hx hb (dk_at dkX0_prepareWants_0 0 rfl) rfl (lv_at hl 0 rfl) ?_
  refine lv_iconst (v := iI 0) hx hb (dk_at dkX0_prepareWants_0 1 rfl) (by decide +kernel) ?_
  refine k_put (Wf := WK cB cI cJ cZ cQ q) (D := (dC, dI)) (ci := 0) (v := .int (iI 0)) (ty := .int) (C := RX0) (T := TX0) (N := 17) hx hb hts hiX0 tyX0 tyX0_ok nmX0 hown hK hP hDD hS 6 (wkAL) rfl 9 (by decide) (hts _ (List.mem_cons_of_mem _ wkq_0_29)) (fun _ h9 => h9) rfl (by decide +kernel) rfl rfl (Nat.le_of_ble_eq_true rfl) (dk_at dkX0_prepareWants_0 2 rfl) (wfAL_9 (v := 0)) (fun H locs A1 hA1 hP hS => ?_)
  have hI := isAL_9 hA1 hI (show (0 : Int) ≤ 0 ∧ 0 ≤ 2 from ⟨by decide, by decide⟩)
  refine lv_aload_n hx hb (dk_at dkX0_prepareWants_0 3 rfl) rfl (lv_at hl 0 rfl) ?_
  have e2 : A1 6 13 = (A 6 13) := (rd_at hA1 (by decide))
  have r3 : (-2147483648 : Int) ≤ (A 6 13) ∧ (A 6 13) ≤ 2147483647 := by rw [← e2]; exact irAL_13 hI
  refine va_get (D := (dC, dI)) (ci := 0) (v := .int (iI (A1 6 13))) (C := RX0) (T := TX0) (N := 17) hx hb hts hiX0 hown hK hP 6 (wkAL) rfl 13 (by decide) (hts _ (List.mem_cons_of_mem _ wkq_0_16)) (fun _ h9 => h9) rfl (dk_at dkX0_prepareWants_0 4 rfl) ?_
  refine tp_i (y := iI (A 6 13)) (congrArg iI e2) ?_
  refine lv_iconst (v := iI 2) hx hb (dk_at dkX0_prepareWants_0 5 rfl) (by decide +kernel) ?_
  refine lv_icmp_eq (tgt := 14) hx hb (dk_at dkX0_prepareWants_0 6 rfl) (by decide) (fun c4 => ?_) (fun c4 => ?_)
  · have c4 : (A 6 13) = 2 := (i_eq r3 ⟨by decide, by decide⟩).mp c4
    refine lv_iconst (v := iI 0) hx hb (dk_at dkX0_prepareWants_0 8 rfl) (by decide +kernel) ?_
    refine lv_istore_n (lv' := [(3, .int (iI 0)), (0, .ref (q 6)), (1, .ref (q ta)), (2, .int (iI x2))]) hx hb (dk_at dkX0_prepareWants_0 9 rfl) rfl hl (by decide) rfl (fun ls hl => ?_)
    have L16_8 : ∀ (n14 : Nat) (z5 : Int) (A7 : St) (H : Heap) (locs : List Loc) (ls : Array Slot), (0 ≤ z5 ∧ z5 ≤ 2147483647) → (∀ (u : St), (∃ mm1 : Nat, (d_X0_prepareWants_1 ta x2 u mm1 z5 A7)) → r_X0_prepareWants ta x2 A u) → ((5 - z5).toNat = n14) → IK A7 → fk [17] [(6, 9)] A1 A7 → va_P (dC, dI) vwCl (WK cB cI cJ cZ cQ q A7) H → va_S AS s.heap H locs → lv_has ls 4 [(3, .int (iI z5)), (0, .ref (q 6)), (1, .ref (q ta)), (2, .int (iI x2))] → W p l e (headSpec ws_kc_X0_prepareWants ({ frames := 0, cells := 0, slots := 0, locals := 0 } : Room)).room s m [.ref (q 6), .ref (q ta), .int (iI x2)].toArray below meth c H locs 0 0 Q (F0 m 16 ls []) := by
      intro n14
      induction n14 using Nat.strongRecOn with
      | ind n14 ih9 =>
        intro z5 A7 H locs ls f10 hk1 hn14 hI hj6 hP hS hl
        have gI15 : Hd (IK A7) := Hd.mk hI
        refine lv_iload_n hx hb (dk_at dkX0_prepareWants_0 10 rfl) rfl (lv_at hl 0 rfl) ?_
        refine lv_aload_n hx hb (dk_at dkX0_prepareWants_0 11 rfl) rfl (lv_at hl 2 rfl) ?_
        refine va_get (D := (dC, dI)) (ci := 9) (v := .ref (q (ta + 1))) (C := RX9) (T := TX9) (N := 16) hx hb hts hiX9 hown hK hP ta (wkT hta) rfl 0 (by decide) (hts _ (List.mem_cons_of_mem _ wkq_0_1)) (fun _ h9 => h9) rfl (dk_at dkX0_prepareWants_0 12 rfl) ?_
        refine lv_iconst (v := iI 4) hx hb (dk_at dkX0_prepareWants_0 13 rfl) (by decide +kernel) ?_
        have a17 : ∀ k, A1 (ta + 1) k = A (ta + 1) k := fun k => rd_ne hA1 (by rcases hta with h | h <;> omega) k
        have a16 : ∀ k, A7 (ta + 1) k = A (ta + 1) k := fun k => (hj6 (ta + 1) k (isT.b2 (o := fun b => List.contains [17] (b + 1)) hta rfl rfl) (isT.b2 (o := fun b => fin2 [(6, 9)] (b + 1) k) hta rfl rfl)).trans (a17 k)
        refine x_iald (Wf := WK cB cI cJ cZ cQ q) hx hb hK hP (ta + 1) 1 (wkTc hta) rfl (by decide) (by decide) (dk_at dkX0_prepareWants_0 14 rfl) (fun z18 hz18 => ?_)
        have rz18 : (0 : Int) ≤ z18 ∧ z18 ≤ 4 := by rw [hz18]; exact irTc4 hta hI
        have gz18 := Hd.mk hz18
        have hz18 : z18 = A (ta + 1) (4 : Int).toNat := hz18.trans (a16 _)
        refine lv_icmp_ge (tgt := 78) hx hb (dk_at dkX0_prepareWants_0 15 rfl) (by decide) (fun c19 => ?_) (fun c19 => ?_)
        · have c19 : z18 ≤ z5 := (i_le (rb rz18 (by decide) (by decide)) (rb f10 (by decide) (by decide))).mp c19
          exact RET _ _ _ _ _ ⟨hk1 _ ⟨0 + 1, (u_d_X0_prepareWants_1 ⟨gI15.out, ⟨f10, ⟨z18, gz18.out, (Or.inl ⟨c19, rfl⟩)⟩⟩⟩)⟩, hI, fk.trans (fk.df (fk.rf) hA1 rfl) hj6 rfl rfl, trivial⟩ hP hS (dk_at dkX0_prepareWants_2 14 rfl)
        · have c19 : ¬ z18 ≤ z5 := mt (i_le (rb rz18 (by decide) (by decide)) (rb f10 (by decide) (by decide))).mpr c19
          refine lv_aload_n hx hb (dk_at dkX0_prepareWants_1 0 rfl) rfl (lv_at hl 2 rfl) ?_
          refine va_get (D := (dC, dI)) (ci := 9) (v := .ref (q (ta + 12))) (C := RX9) (T := TX9) (N := 16) hx hb hts hiX9 hown hK hP ta (wkT hta) rfl 6 (by decide) (hts _ (List.mem_cons_of_mem _ wkq_0_30)) (fun _ h9 => h9) rfl (dk_at dkX0_prepareWants_1 1 rfl) ?_
          refine lv_iload_n hx hb (dk_at dkX0_prepareWants_1 2 rfl) rfl (lv_at hl 3 rfl) ?_
          have a21 : ∀ k, A1 (ta + 12) k = A (ta + 12) k := fun k => rd_ne hA1 (by rcases hta with h | h <;> omega) k
          have a20 : ∀ k, A7 (ta + 12) k = A (ta + 12) k := fun k => (hj6 (ta + 12) k (isT.b2 (o := fun b => List.contains [17] (b + 12)) hta rfl rfl) (isT.b2 (o := fun b => fin2 [(6, 9)] (b + 12) k) hta rfl rfl)).trans (a21 k)
          refine x_iald (Wf := WK cB cI cJ cZ cQ q) hx hb hK hP (ta + 12) 1 (wkTw hta) rfl (by omega) (by decide) (dk_at dkX0_prepareWants_1 3 rfl) (fun z22 hz22 => ?_)
          have rz22 : (-2147483648 : Int) ≤ z22 ∧ z22 ≤ 2147483647 := by rw [hz22]; exact irTw hta hI
          have gz22 := Hd.mk hz22
          have hz22 : z22 = A (ta + 12) (x2).toNat := hz22.trans (a20 _)
          refine lv_iload_n hx hb (dk_at dkX0_prepareWants_1 4 rfl) rfl (lv_at hl 0 rfl) ?_
          refine lv_ishr hx hb (dk_at dkX0_prepareWants_1 5 rfl) ?_
          refine x_absE (fun z23 gz23 hz23 => ?_)
          refine lv_iconst (v := iI 1) hx hb (dk_at dkX0_prepareWants_1 6 rfl) (by decide +kernel) ?_
          refine lv_iand hx hb (dk_at dkX0_prepareWants_1 7 rfl) ?_
          refine x_andE (b := 1) (by omega) (fun z24 gz24 hz24 => ?_)
          have J72_26 : ∀ (A36 : St) (H : Heap) (locs : List Loc) (ls : Array Slot), (∀ (u : St), (∃ mm1 : Nat, (d_X0_prepareWants_2 (fun z5' A7' => d_X0_prepareWants_1 ta x2 u mm1 z5' A7') z5 u A36)) → r_X0_prepareWants ta x2 A u) → IK A36 → fk [17] [(6, 9)] A7 A36 → va_P (dC, dI) vwCl (WK cB cI cJ cZ cQ q A36) H → va_S AS s.heap H locs → lv_has ls 4 [(3, .int (iI z5)), (0, .ref (q 6)), (1, .ref (q ta)), (2, .int (iI x2))] → W p l e (headSpec ws_kc_X0_prepareWants ({ frames := 0, cells := 0, slots := 0, locals := 0 } : Room)).room s m [.ref (q 6), .ref (q ta), .int (iI x2)].toArray below meth c H locs 0 0 Q (F0 m 72 ls []) := by
            intro A36 H locs ls hk2 hI hj35 hP hS hl
            have gI37 : Hd (IK A36) := Hd.mk hI
            refine lv_iinc (v := iI (z5 + 1)) (lv' := [(3, .int (iI (z5 + 1))), (0, .ref (q 6)), (1, .ref (q ta)), (2, .int (iI x2))]) hx hb (dk_at dkX0_prepareWants_2 12 rfl) hl (k := 0) rfl (i_inc (by omega)) (by decide) rfl (fun ls hl => ?_)
            refine lv_goto (tgt := 16) hx hb (dk_at dkX0_prepareWants_2 13 rfl) (by decide) ?_
            exact ih9 _ (by omega) (z5 + 1) _ _ _ _ (by omega) (fun uq ⟨mm1, hq⟩ => hk2 _ ⟨mm1, (u_d_X0_prepareWants_2 ⟨gI37.out, hq⟩)⟩) rfl hI (fk.trans (fk.trans (fk.rf) hj6 rfl rfl) hj35 rfl rfl) hP hS (lv_sub hl [0, 1, 2, 3] rfl)
          refine lv_if_eq (tgt := 72) hx hb (dk_at dkX0_prepareWants_1 8 rfl) (by decide) (fun c25 => ?_) (fun c25 => ?_)
          · have c25 : z24 = 0 := (i_eq0 (by omega)).mp c25
            exact J72_26 _ _ _ _ (fun uq ⟨mm1, hq⟩ => hk1 _ ⟨mm1 + 1, (u_d_X0_prepareWants_1 ⟨gI15.out, ⟨f10, ⟨z18, gz18.out, (Or.inr ⟨c19, ⟨z22, gz22.out, ⟨z23, gz23.out, ⟨z24, gz24.out, (Or.inl ⟨c25, hq⟩)⟩⟩⟩⟩)⟩⟩⟩)⟩) hI (fk.rf) hP hS (lv_sub hl [0, 1, 2, 3] rfl)
          · have c25 : ¬ z24 = 0 := mt (i_eq0 (by omega)).mpr c25
            refine lv_aload_n hx hb (dk_at dkX0_prepareWants_1 9 rfl) rfl (lv_at hl 1 rfl) ?_
            have r27 : (0 : Int) ≤ (A7 6 9) ∧ (A7 6 9) ≤ 2 := irAL_9 hI
            refine va_get (D := (dC, dI)) (ci := 0) (v := .int (iI (A7 6 9))) (C := RX0) (T := TX0) (N := 17) hx hb hts hiX0 hown hK hP 6 (wkAL) rfl 9 (by decide) (hts _ (List.mem_cons_of_mem _ wkq_0_29)) (fun _ h9 => h9) rfl (dk_at dkX0_prepareWants_1 10 rfl) ?_
            refine lv_iconst (v := iI 2) hx hb (dk_at dkX0_prepareWants_1 11 rfl) (by decide +kernel) ?_
            refine lv_icmp_ge (tgt := 72) hx hb (dk_at dkX0_prepareWants_1 12 rfl) (by decide) (fun c28 => ?_) (fun c28 => ?_)
            · have c28 : 2 ≤ (A7 6 9) := (i_le ⟨by decide, by decide⟩ (rb r27 (by decide) (by decide))).mp c28
              exact J72_26 _ _ _ _ (fun uq ⟨mm1, hq⟩ => hk1 _ ⟨mm1 + 1, (u_d_X0_prepareWants_1 ⟨gI15.out, ⟨f10, ⟨z18, gz18.out, (Or.inr ⟨c19, ⟨z22, gz22.out, ⟨z23, gz23.out, ⟨z24, gz24.out, (Or.inr ⟨c25, (Or.inl ⟨c28, hq⟩)⟩)⟩⟩⟩⟩)⟩⟩⟩)⟩) hI (fk.rf) hP hS (lv_sub hl [0, 1, 2, 3] rfl)
            · have c28 : ¬ 2 ≤ (A7 6 9) := mt (i_le ⟨by decide, by decide⟩ (rb r27 (by decide) (by decide))).mpr c28
              refine lv_aload_n hx hb (dk_at dkX0_prepareWants_1 13 rfl) rfl (lv_at hl 1 rfl) ?_
              refine va_get (D := (dC, dI)) (ci := 0) (v := .ref (q 17)) (C := RX0) (T := TX0) (N := 17) hx hb hts hiX0 hown hK hP 6 (wkAL) rfl 6 (by decide) (hts _ (List.mem_cons_of_mem _ wkq_0_31)) (fun _ h9 => h9) rfl (dk_at dkX0_prepareWants_1 14 rfl) ?_
              refine lv_aload_n hx hb (dk_at dkX0_prepareWants_1 15 rfl) rfl (lv_at hl 1 rfl) ?_
              refine va_get (D := (dC, dI)) (ci := 0) (v := .int (iI (A7 6 9))) (C := RX0) (T := TX0) (N := 17) hx hb hts hiX0 hown hK hP 6 (wkAL) rfl 9 (by decide) (hts _ (List.mem_cons_of_mem _ wkq_0_29)) (fun _ h9 => h9) rfl (dk_at dkX0_prepareWants_2 0 rfl) ?_
              refine lv_aload_n hx hb (dk_at dkX0_prepareWants_2 1 rfl) rfl (lv_at hl 2 rfl) ?_
              refine va_get (D := (dC, dI)) (ci := 9) (v := .ref (q (ta + 11))) (C := RX9) (T := TX9) (N := 16) hx hb hts hiX9 hown hK hP ta (wkT hta) rfl 5 (by decide) (hts _ (List.mem_cons_of_mem _ wkq_0_32)) (fun _ h9 => h9) rfl (dk_at dkX0_prepareWants_2 2 rfl) ?_
              refine lv_iload_n hx hb (dk_at dkX0_prepareWants_2 3 rfl) rfl (lv_at hl 0 rfl) ?_
              have a30 : ∀ k, A1 (ta + 11) k = A (ta + 11) k := fun k => rd_ne hA1 (by rcases hta with h | h <;> omega) k
              have a29 : ∀ k, A7 (ta + 11) k = A (ta + 11) k := fun k => (hj6 (ta + 11) k (isT.b2 (o := fun b => List.contains [17] (b + 11)) hta rfl rfl) (isT.b2 (o := fun b => fin2 [(6, 9)] (b + 11) k) hta rfl rfl)).trans (a30 k)
              refine x_iald (Wf := WK cB cI cJ cZ cQ q) hx hb hK hP (ta + 11) 1 (wkTt hta) rfl (by omega) (by decide) (dk_at dkX0_prepareWants_2 4 rfl) (fun z31 hz31 => ?_)
              have rz31 : (-2147483648 : Int) ≤ z31 ∧ z31 ≤ 2147483647 := by rw [hz31]; exact irTt hta hI
              have gz31 := Hd.mk hz31
              have hz31 : z31 = A (ta + 11) (z5).toNat := hz31.trans (a29 _)
              refine k_iast (Wf := WK cB cI cJ cZ cQ q) hx hb hK hP hDD hS 17 1 (wkALw) rfl (by omega) (by decide) (dk_at dkX0_prepareWants_2 5 rfl) (wsALw) (fun H locs A32 hA32 hP hS => ?_)
              have hI := isALw hA32 hI (show (-2147483648 : Int) ≤ z31 ∧ z31 ≤ 2147483647 from rz31)
              refine lv_aload_n hx hb (dk_at dkX0_prepareWants_2 6 rfl) rfl (lv_at hl 1 rfl) ?_
              refine lv_dup hx hb (dk_at dkX0_prepareWants_2 7 rfl) rfl ?_
              have e33 : A32 6 9 = (A7 6 9) := (rd_ne hA32 (by decide) 9)
              refine va_get (D := (dC, dI)) (ci := 0) (v := .int (iI (A32 6 9))) (C := RX0) (T := TX0) (N := 17) hx hb hts hiX0 hown hK hP 6 (wkAL) rfl 9 (by decide) (hts _ (List.mem_cons_of_mem _ wkq_0_29)) (fun _ h9 => h9) rfl (dk_at dkX0_prepareWants_2 8 rfl) ?_
              refine tp_i (y := iI (A7 6 9)) (congrArg iI e33) ?_
              refine lv_iconst (v := iI 1) hx hb (dk_at dkX0_prepareWants_2 9 rfl) (by decide +kernel) ?_
              refine x_addv (v := (A7 6 9) + 1) hx hb (dk_at dkX0_prepareWants_2 10 rfl) (by omega) ?_
              refine k_put (Wf := WK cB cI cJ cZ cQ q) (D := (dC, dI)) (ci := 0) (v := .int (iI ((A7 6 9) + 1))) (ty := .int) (C := RX0) (T := TX0) (N := 17) hx hb hts hiX0 tyX0 tyX0_ok nmX0 hown hK hP hDD hS 6 (wkAL) rfl 9 (by decide) (hts _ (List.mem_cons_of_mem _ wkq_0_29)) (fun _ h9 => h9) rfl (by decide +kernel) rfl rfl (Nat.le_of_ble_eq_true rfl) (dk_at dkX0_prepareWants_2 11 rfl) (wfAL_9 (v := (A7 6 9) + 1)) (fun H locs A34 hA34 hP hS => ?_)
              have hI := isAL_9 hA34 hI (show (0 : Int) ≤ (A7 6 9) + 1 ∧ (A7 6 9) + 1 ≤ 2 from (by omega))
              exact J72_26 _ _ _ _ (fun uq ⟨mm1, hq⟩ => hk1 _ ⟨mm1 + 1, (u_d_X0_prepareWants_1 ⟨gI15.out, ⟨f10, ⟨z18, gz18.out, (Or.inr ⟨c19, ⟨z22, gz22.out, ⟨z23, gz23.out, ⟨z24, gz24.out, (Or.inr ⟨c25, (Or.inr ⟨c28, ⟨z31, gz31.out, ⟨A32, hA32, ⟨A34, hA34, hq⟩⟩⟩⟩)⟩)⟩⟩⟩⟩)⟩⟩⟩)⟩) hI (fk.df (fk.da (fk.rf) hA32 rfl) hA34 rfl) hP hS (lv_sub hl [0, 1, 2, 3] rfl)
    exact L16_8 _ 0 _ _ _ _ (by omega) (fun uq ⟨mm1, hq⟩ => (u_r_X0_prepareWants ⟨A1, hA1, (Or.inl ⟨c4, ⟨mm1, hq⟩⟩)⟩)) rfl hI (fk.rf) hP hS (lv_sub hl [0, 1, 2, 3] rfl)
  · have c4 : ¬ (A 6 13) = 2 := mt (i_eq r3 ⟨by decide, by decide⟩).mpr c4
    exact RET _ _ _ _ _ ⟨(u_r_X0_prepareWants ⟨A1, hA1, (Or.inr ⟨c4, rfl⟩)⟩), hI, fk.df (fk.rf) hA1 rfl, trivial⟩ hP hS (dk_at dkX0_prepareWants_0 7 rfl)

abbrev tr_r_X6_inRow (ta : Nat) (x1 : Int) (x2 : Int) (A : St) (z : Int) : Prop := (((x1 < 0) ∧ (z = (-1))) ∨ ((¬ x1 < 0) ∧ (((4 ≤ x1) ∧ (z = (-1))) ∨ ((¬ 4 ≤ x1) ∧ (((x2 < 0) ∧ (z = (-1))) ∨ ((¬ x2 < 0) ∧ (∃ z4 : Int, z4 = A (ta + 3) (x1).toNat ∧ (((z4 ≤ x2) ∧ (z = (-1))) ∨ ((¬ z4 ≤ x2) ∧ (∃ z7 : Int, z7 = A (ta + 5 + (x1).toNat) (x2).toNat ∧ (z = z7)))))))))))
def r_X6_inRow (ta : Nat) (x1 : Int) (x2 : Int) (A : St) (z : Int) : Prop := tr_r_X6_inRow ta x1 x2 A z
theorem u_r_X6_inRow {ta : Nat} {x1 : Int} {x2 : Int} {A : St} {z : Int} (h : tr_r_X6_inRow ta x1 x2 A z) : r_X6_inRow ta x1 x2 A z := h
def q_X6_inRow (ta : Nat) (x1 : Int) (x2 : Int) (A : St) (z : Int) : Prop := r_X6_inRow ta x1 x2 A z ∧ ((-2147483648 ≤ z ∧ z ≤ 2147483647) ∧ (z = -1 ∨ 0 ≤ x1 ∧ x1 ≤ 3 ∧ 0 ≤ x2 ∧ x2 ≤ 5 ∧ x2 < A (ta + 3) x1.toNat))
def ws_kc_X6_inRow : List Cond := .code yX6_inRow cX6_inRow 3 (some .int) :: WY
set_option maxHeartbeats 4000000 in
set_option maxRecDepth 100000 in
theorem kc_X6_inRow (l : Launch) (dC : Nat → ClassId) (dI : Nat → Nat → Nat) (cB cI cJ cZ cQ : ClassId) (aL aS : Nat) (q : Nat → Nat) (A : St) (ta : Nat) (x1 x2 : Int) (hI : IK A) (hta : isS ta) (hx1 : (-2147483648 : Int) ≤ x1 ∧ x1 ≤ 2147483647) (hx2 : (-2147483648 : Int) ≤ x2 ∧ x2 ≤ 2147483647) : KMi l yX6_inRow ws_kc_X6_inRow ({ frames := 0, cells := 0, slots := 0, locals := 0 } : Room) aL aS (dC, dI) (tyA cB cI cJ cZ cQ) (WK cB cI cJ cZ cQ q) A [.ref (q ta), .int (iI x1), .int (iI x2)] (fun z u => A = u ∧ r_X6_inRow ta x1 x2 A z ∧ ((-2147483648 ≤ z ∧ z ≤ 2147483647) ∧ (z = -1 ∨ 0 ≤ x1 ∧ x1 ≤ 3 ∧ 0 ≤ x2 ∧ x2 ≤ 5 ∧ x2 < A (ta + 3) x1.toNat))) := by
  refine k_meti (cc := cX6_inRow) (maxL := 3) WK_adr (plainFor_of_name (by decide +kernel)) rfl (Nat.le_of_ble_eq_true rfl) (fun p e s m below meth c Q AS ls hx hb hml hown hts hK hDD hA0 hE RET H locs hP hS hl => ?_)
  have hown : s.vm.findClass RX6 = some m.cls := hown
  have hl : lv_has ls 3 [(0, .ref (q ta)), (1, .int (iI x1)), (2, .int (iI x2))] := hl
  have hiX6 : ∀ w ∈ u_ws RX6 TX6 4, w ∈ ws_kc_X6_inRow := fun w h => List.mem_cons_of_mem _ (wy_layX6 w h)
  refine lv_iload_n hx hb (dk_at dkX6_inRow_0 0 rfl) rfl (lv_at hl 1 rfl) ?_
  refine lv_if_lt (tgt := 29) hx hb (dk_at dkX6_inRow_0 1 rfl) (by decide) (fun c1 => ?_) (fun c1 => ?_)
  · have c1 : x1 < 0 := (i_lt0 hx1).mp c1
    refine lv_iconst (v := iI (-1)) hx hb (dk_at dkX6_inRow_1 0 rfl) (by decide +kernel) ?_
    exact RET (-1) _ _ _ _ _ ⟨rfl, (u_r_X6_inRow (Or.inl ⟨c1, rfl⟩)), by omega⟩ hP hS (dk_at dkX6_inRow_1 1 rfl)
  · have c1 : ¬ x1 < 0 := mt (i_lt0 hx1).mpr c1
    refine lv_iload_n hx hb (dk_at dkX6_inRow_0 2 rfl) rfl (lv_at hl 1 rfl) ?_
    refine lv_iconst (v := iI 4) hx hb (dk_at dkX6_inRow_0 3 rfl) (by decide +kernel) ?_
    refine lv_icmp_ge (tgt := 29) hx hb (dk_at dkX6_inRow_0 4 rfl) (by decide) (fun c2 => ?_) (fun c2 => ?_)
    · have c2 : 4 ≤ x1 := (i_le ⟨by decide, by decide⟩ hx1).mp c2
      refine lv_iconst (v := iI (-1)) hx hb (dk_at dkX6_inRow_1 0 rfl) (by decide +kernel) ?_
      exact RET (-1) _ _ _ _ _ ⟨rfl, (u_r_X6_inRow (Or.inr ⟨c1, (Or.inl ⟨c2, rfl⟩)⟩)), by omega⟩ hP hS (dk_at dkX6_inRow_1 1 rfl)
    · have c2 : ¬ 4 ≤ x1 := mt (i_le ⟨by decide, by decide⟩ hx1).mpr c2
      refine lv_iload_n hx hb (dk_at dkX6_inRow_0 5 rfl) rfl (lv_at hl 2 rfl) ?_
      refine lv_if_lt (tgt := 29) hx hb (dk_at dkX6_inRow_0 6 rfl) (by decide) (fun c3 => ?_) (fun c3 => ?_)
      · have c3 : x2 < 0 := (i_lt0 hx2).mp c3
        refine lv_iconst (v := iI (-1)) hx hb (dk_at dkX6_inRow_1 0 rfl) (by decide +kernel) ?_
        exact RET (-1) _ _ _ _ _ ⟨rfl, (u_r_X6_inRow (Or.inr ⟨c1, (Or.inr ⟨c2, (Or.inl ⟨c3, rfl⟩)⟩)⟩)), by omega⟩ hP hS (dk_at dkX6_inRow_1 1 rfl)
      · have c3 : ¬ x2 < 0 := mt (i_lt0 hx2).mpr c3
        refine lv_iload_n hx hb (dk_at dkX6_inRow_0 7 rfl) rfl (lv_at hl 2 rfl) ?_
        refine lv_aload_n hx hb (dk_at dkX6_inRow_0 8 rfl) rfl (lv_at hl 0 rfl) ?_
        refine va_get (D := (dC, dI)) (ci := 6) (v := .ref (q (ta + 3))) (C := RX6) (T := TX6) (N := 4) hx hb hts hiX6 hown hK hP ta (wkS hta) rfl 2 (by decide) (hts _ (List.mem_cons_of_mem _ wkq_0_58)) (fun _ h9 => h9) rfl (dk_at dkX6_inRow_0 9 rfl) ?_
        refine lv_iload_n hx hb (dk_at dkX6_inRow_0 10 rfl) rfl (lv_at hl 1 rfl) ?_
        refine x_iald (Wf := WK cB cI cJ cZ cQ q) hx hb hK hP (ta + 3) 1 (wkSz hta) rfl (by omega) (by decide) (dk_at dkX6_inRow_0 11 rfl) (fun z4 hz4 => ?_)
        have rz4 : (0 : Int) ≤ z4 ∧ z4 ≤ 6 := by rw [hz4]; exact irSz hta hI
        have gz4 := Hd.mk hz4
        refine lv_icmp_ge (tgt := 29) hx hb (dk_at dkX6_inRow_0 12 rfl) (by decide) (fun c5 => ?_) (fun c5 => ?_)
        · have c5 : z4 ≤ x2 := (i_le (rb rz4 (by decide) (by decide)) hx2).mp c5
          refine lv_iconst (v := iI (-1)) hx hb (dk_at dkX6_inRow_1 0 rfl) (by decide +kernel) ?_
          exact RET (-1) _ _ _ _ _ ⟨rfl, (u_r_X6_inRow (Or.inr ⟨c1, (Or.inr ⟨c2, (Or.inr ⟨c3, ⟨z4, gz4.out, (Or.inl ⟨c5, rfl⟩)⟩⟩)⟩)⟩)), by omega⟩ hP hS (dk_at dkX6_inRow_1 1 rfl)
        · have c5 : ¬ z4 ≤ x2 := mt (i_le (rb rz4 (by decide) (by decide)) hx2).mpr c5
          refine lv_iload_n hx hb (dk_at dkX6_inRow_0 13 rfl) rfl (lv_at hl 2 rfl) ?_
          refine lv_bipush (v := iI 6) hx hb (dk_at dkX6_inRow_0 14 rfl) (by decide +kernel) ?_
          refine lv_icmp_lt (tgt := 31) hx hb (dk_at dkX6_inRow_0 15 rfl) (by decide) (fun _ => ?_) (fun c6 => False.elim (by have c6 : ¬ x2 < 6 := mt (i_lt hx2 ⟨by decide, by decide⟩).mpr c6; omega))
          refine lv_aload_n hx hb (dk_at dkX6_inRow_1 2 rfl) rfl (lv_at hl 0 rfl) ?_
          refine va_get (D := (dC, dI)) (ci := 6) (v := .ref (q (ta + 4))) (C := RX6) (T := TX6) (N := 4) hx hb hts hiX6 hown hK hP ta (wkS hta) rfl 3 (by decide) (hts _ (List.mem_cons_of_mem _ wkq_0_59)) (fun _ h9 => h9) rfl (dk_at dkX6_inRow_1 3 rfl) ?_
          refine lv_iload_n hx hb (dk_at dkX6_inRow_1 4 rfl) rfl (lv_at hl 1 rfl) ?_
          refine k_aald (Wf := WK cB cI cJ cZ cQ q) hx hb hK hP (ta + 4) 4 (wkSq hta) rfl (by omega) (by decide) (b := q (ta + 5 + (x1).toNat)) (by rcases (show x1 = 0 ∨ x1 = 1 ∨ x1 = 2 ∨ x1 = 3 by omega) with h | h | h | h <;> rw [h] <;> rfl) (dk_at dkX6_inRow_1 5 rfl) ?_
          refine lv_iload_n hx hb (dk_at dkX6_inRow_1 6 rfl) rfl (lv_at hl 2 rfl) ?_
          refine x_iald (Wf := WK cB cI cJ cZ cQ q) hx hb hK hP (ta + 5 + (x1).toNat) 1 (wkSr hta (i := x1) (by omega)) rfl (by omega) (by decide) (dk_at dkX6_inRow_1 7 rfl) (fun z7 hz7 => ?_)
          have rz7 : (-2147483648 : Int) ≤ z7 ∧ z7 ≤ 2147483647 := by rw [hz7]; exact irSr hta (i := x1) (by omega) hI
          have gz7 := Hd.mk hz7
          exact RET z7 _ _ _ _ _ ⟨rfl, (u_r_X6_inRow (Or.inr ⟨c1, (Or.inr ⟨c2, (Or.inr ⟨c3, ⟨z4, gz4.out, (Or.inr ⟨c5, ⟨z7, gz7.out, rfl⟩⟩)⟩⟩)⟩)⟩)), by omega⟩ hP hS (dk_at dkX6_inRow_1 8 rfl)

abbrev tr_d_X6_rowMask_2 (K1 : Int → Int → Prop) (z1 : Int) (z : Int) (z17 : Int) : Prop := ((-2147483648 ≤ z17 ∧ z17 ≤ 2147483647) ∧ (K1 (z1 + 1) z17))
def d_X6_rowMask_2 (K1 : Int → Int → Prop) (z1 : Int) (z : Int) (z17 : Int) : Prop := tr_d_X6_rowMask_2 K1 z1 z z17
theorem u_d_X6_rowMask_2 {K1 : Int → Int → Prop} {z1 : Int} {z : Int} {z17 : Int} (h : tr_d_X6_rowMask_2 K1 z1 z z17) : d_X6_rowMask_2 K1 z1 z z17 := h
abbrev tr_d_X6_rowMask_1 (ta : Nat) (x1 : Int) (A : St) (z : Int) (K1 : Int → Int → Prop) (z1 : Int) (z2 : Int) : Prop := ((0 ≤ z1 ∧ z1 ≤ 2147483647) ∧ ((-2147483648 ≤ z2 ∧ z2 ≤ 2147483647) ∧ (((6 ≤ z1) ∧ (z = z2)) ∨ ((¬ 6 ≤ z1) ∧ (∃ z10 : Int, q_X6_inRow ta x1 z1 A z10 ∧ (((z10 = (-1)) ∧ (d_X6_rowMask_2 K1 z1 z z2)) ∨ ((¬ z10 = (-1)) ∧ (∃ z15 : Int, z15 = oShl 1 z10 ∧ (∃ z16 : Int, z16 = oOr z2 z15 ∧ (d_X6_rowMask_2 K1 z1 z z16))))))))))
def d_X6_rowMask_1 (ta : Nat) (x1 : Int) (A : St) (z : Int) : Nat → Int → Int → Prop
  | 0, _, _ => False
  | nn9 + 1, z1, z2 => tr_d_X6_rowMask_1 ta x1 A z (fun z1 z2 => d_X6_rowMask_1 ta x1 A z nn9 z1 z2) z1 z2
theorem u_d_X6_rowMask_1 {ta : Nat} {x1 : Int} {A : St} {z : Int} {nn9 : Nat} {z1 : Int} {z2 : Int} (h : tr_d_X6_rowMask_1 ta x1 A z (fun z1 z2 => d_X6_rowMask_1 ta x1 A z nn9 z1 z2) z1 z2) : d_X6_rowMask_1 ta x1 A z (nn9 + 1) z1 z2 := h
abbrev tr_r_X6_rowMask (ta : Nat) (x1 : Int) (A : St) (z : Int) : Prop := (∃ nn9 : Nat, d_X6_rowMask_1 ta x1 A z nn9 0 0)
def r_X6_rowMask (ta : Nat) (x1 : Int) (A : St) (z : Int) : Prop := tr_r_X6_rowMask ta x1 A z
theorem u_r_X6_rowMask {ta : Nat} {x1 : Int} {A : St} {z : Int} (h : tr_r_X6_rowMask ta x1 A z) : r_X6_rowMask ta x1 A z := h
def q_X6_rowMask (ta : Nat) (x1 : Int) (A : St) (z : Int) : Prop := r_X6_rowMask ta x1 A z ∧ (-2147483648 ≤ z ∧ z ≤ 2147483647)
def ws_kc_X6_rowMask : List Cond := .code yX6_rowMask cX6_rowMask 5 (some .int) :: WY
set_option maxHeartbeats 4000000 in
set_option maxRecDepth 100000 in
theorem kc_X6_rowMask (l : Launch) (dC : Nat → ClassId) (dI : Nat → Nat → Nat) (cB cI cJ cZ cQ : ClassId) (aL aS : Nat) (q : Nat → Nat) (A : St) (ta : Nat) (x1 : Int) (hI : IK A) (hta : isS ta) (hx1 : (-2147483648 : Int) ≤ x1 ∧ x1 ≤ 2147483647) : KMi l yX6_rowMask ws_kc_X6_rowMask ({ frames := 1, cells := 0, slots := 0, locals := 22 } : Room) aL aS (dC, dI) (tyA cB cI cJ cZ cQ) (WK cB cI cJ cZ cQ q) A [.ref (q ta), .int (iI x1)] (fun z u => A = u ∧ r_X6_rowMask ta x1 A z ∧ (-2147483648 ≤ z ∧ z ≤ 2147483647)) := by
  refine k_meti (cc := cX6_rowMask) (maxL := 5) WK_adr (plainFor_of_name (by decide +kernel)) rfl (Nat.le_of_ble_eq_true rfl) (fun p e s m below meth c Q AS ls hx hb hml hown hts hK hDD hA0 hE RET H locs hP hS hl => ?_)
  have hown : s.vm.findClass RX6 = some m.cls := hown
  have hl : lv_has ls 5 [(0, .ref (q ta)), (1, .int (iI x1))] := hl
  refine lv_iconst (v := iI 0) hx hb (dk_at dkX6_rowMask_0 0 rfl) (by decide +kernel) ?_
  refine lv_istore_n (lv' := [(2, .int (iI 0)), (0, .ref (q ta)), (1, .int (iI x1))]) hx hb (dk_at dkX6_rowMask_0 1 rfl) rfl hl (by decide) rfl (fun ls hl => ?_)
  refine lv_iconst (v := iI 0) hx hb (dk_at dkX6_rowMask_0 2 rfl) (by decide +kernel) ?_
  refine lv_istore_n (lv' := [(3, .int (iI 0)), (2, .int (iI 0)), (0, .ref (q ta)), (1, .int (iI x1))]) hx hb (dk_at dkX6_rowMask_0 3 rfl) rfl hl (by decide) rfl (fun ls hl => ?_)
  have L4_4 : ∀ (n8 : Nat) (z1 z2 : Int) (H : Heap) (locs : List Loc) (ls : Array Slot), (0 ≤ z1 ∧ z1 ≤ 2147483647) → (-2147483648 ≤ z2 ∧ z2 ≤ 2147483647) → (∀ (z : Int), (∃ mm1 : Nat, (d_X6_rowMask_1 ta x1 A z mm1 z1 z2)) → r_X6_rowMask ta x1 A z) → ((7 - z1).toNat = n8) → va_P (dC, dI) vwCl (WK cB cI cJ cZ cQ q A) H → va_S AS s.heap H locs → lv_has ls 5 [(3, .int (iI z1)), (2, .int (iI z2)), (0, .ref (q ta)), (1, .int (iI x1))] → W p l e (headSpec ws_kc_X6_rowMask ({ frames := 1, cells := 0, slots := 0, locals := 22 } : Room)).room s m [.ref (q ta), .int (iI x1)].toArray below meth c H locs 0 0 Q (F0 m 4 ls []) := by
    intro n8
    induction n8 using Nat.strongRecOn with
    | ind n8 ih5 =>
      intro z1 z2 H locs ls f6 f7 hk1 hn8 hP hS hl
      refine lv_iload_n hx hb (dk_at dkX6_rowMask_0 4 rfl) rfl (lv_at hl 0 rfl) ?_
      refine lv_bipush (v := iI 6) hx hb (dk_at dkX6_rowMask_0 5 rfl) (by decide +kernel) ?_
      refine lv_icmp_ge (tgt := 37) hx hb (dk_at dkX6_rowMask_0 6 rfl) (by decide) (fun c9 => ?_) (fun c9 => ?_)
      · have c9 : 6 ≤ z1 := (i_le ⟨by decide, by decide⟩ (rb f6 (by decide) (by decide))).mp c9
        refine lv_iload_n hx hb (dk_at dkX6_rowMask_1 7 rfl) rfl (lv_at hl 1 rfl) ?_
        exact RET z2 _ _ _ _ _ ⟨rfl, hk1 _ ⟨0 + 1, (u_d_X6_rowMask_1 ⟨f6, ⟨f7, (Or.inl ⟨c9, rfl⟩)⟩⟩)⟩, f7⟩ hP hS (dk_at dkX6_rowMask_1 8 rfl)
      · have c9 : ¬ 6 ≤ z1 := mt (i_le ⟨by decide, by decide⟩ (rb f6 (by decide) (by decide))).mpr c9
        refine lv_aload_n hx hb (dk_at dkX6_rowMask_0 7 rfl) rfl (lv_at hl 2 rfl) ?_
        refine lv_iload_n hx hb (dk_at dkX6_rowMask_0 8 rfl) rfl (lv_at hl 3 rfl) ?_
        refine lv_iload_n hx hb (dk_at dkX6_rowMask_0 9 rfl) rfl (lv_at hl 0 rfl) ?_
        refine k_calli (As := [.int (iI x1), .int (iI z1)]) (rest := []) ⟨hx, hb, hml, hown, hts⟩ hE (kc_X6_inRow l dC dI cB cI cJ cZ cQ aL aS q _ ta x1 z1 hI hta hx1 (rb f6 (by decide) (by decide))) (cwV 2 hts (goodVk wkq_0_54 wkq_0_55 wkq_0_56 wkq_0_52 wkq_0_57) rfl rfl rfl (by decide +kernel) ⟨Nat.le_of_ble_eq_true rfl, Nat.le_of_ble_eq_true rfl⟩) hK hDD hA0 hP hS ta 6 (wkS hta) rfl rfl hl.1 (Nat.le_of_ble_eq_true rfl) (dk_at dkX6_rowMask_0 10 rfl) (fun z10 A11 H locs hw12 hP hS => ?_)
        obtain ⟨rfl, hw12⟩ := hw12
        have ghw12 : q_X6_inRow ta x1 z1 A z10 := hw12
        have hw12 := hw12.2
        refine lv_istore (lv' := [(4, .int (iI z10)), (3, .int (iI z1)), (2, .int (iI z2)), (0, .ref (q ta)), (1, .int (iI x1))]) hx hb (dk_at dkX6_rowMask_0 11 rfl) hl (by decide) rfl (fun ls hl => ?_)
        refine lv_iload hx hb (dk_at dkX6_rowMask_0 12 rfl) (lv_at hl 0 rfl) ?_
        refine lv_iconst (v := iI (-1)) hx hb (dk_at dkX6_rowMask_0 13 rfl) (by decide +kernel) ?_
        have J31_14 : ∀ (z17 : Int) (H : Heap) (locs : List Loc) (ls : Array Slot), (-2147483648 ≤ z17 ∧ z17 ≤ 2147483647) → (∀ (z : Int), (∃ mm1 : Nat, (d_X6_rowMask_2 (fun z1' z2' => d_X6_rowMask_1 ta x1 A z mm1 z1' z2') z1 z z17)) → r_X6_rowMask ta x1 A z) → va_P (dC, dI) vwCl (WK cB cI cJ cZ cQ q A) H → va_S AS s.heap H locs → lv_has ls 5 [(4, .int (iI z10)), (3, .int (iI z1)), (2, .int (iI z17)), (0, .ref (q ta)), (1, .int (iI x1))] → W p l e (headSpec ws_kc_X6_rowMask ({ frames := 1, cells := 0, slots := 0, locals := 22 } : Room)).room s m [.ref (q ta), .int (iI x1)].toArray below meth c H locs 0 0 Q (F0 m 31 ls []) := by
          intro z17 H locs ls f19 hk2 hP hS hl
          refine lv_iinc (v := iI (z1 + 1)) (lv' := [(3, .int (iI (z1 + 1))), (4, .int (iI z10)), (2, .int (iI z17)), (0, .ref (q ta)), (1, .int (iI x1))]) hx hb (dk_at dkX6_rowMask_1 5 rfl) hl (k := 1) rfl (i_inc (by omega)) (by decide) rfl (fun ls hl => ?_)
          refine lv_goto (tgt := 4) hx hb (dk_at dkX6_rowMask_1 6 rfl) (by decide) ?_
          exact ih5 _ (by omega) (z1 + 1) z17 _ _ _ (by omega) (by omega) (fun zq ⟨mm1, hq⟩ => hk2 _ ⟨mm1, (u_d_X6_rowMask_2 ⟨f19, hq⟩)⟩) rfl hP hS (lv_sub hl [0, 2, 3, 4] rfl)
        refine lv_icmp_eq (tgt := 31) hx hb (dk_at dkX6_rowMask_0 14 rfl) (by decide) (fun c13 => ?_) (fun c13 => ?_)
        · have c13 : z10 = (-1) := (i_eq (by omega) ⟨by decide, by decide⟩).mp c13
          exact J31_14 z2 _ _ _ (by omega) (fun zq ⟨mm1, hq⟩ => hk1 _ ⟨mm1 + 1, (u_d_X6_rowMask_1 ⟨f6, ⟨f7, (Or.inr ⟨c9, ⟨z10, ghw12, (Or.inl ⟨c13, hq⟩)⟩⟩)⟩⟩)⟩) hP hS (lv_sub hl [0, 1, 2, 3, 4] rfl)
        · have c13 : ¬ z10 = (-1) := mt (i_eq (by omega) ⟨by decide, by decide⟩).mpr c13
          refine lv_iload_n hx hb (dk_at dkX6_rowMask_0 15 rfl) rfl (lv_at hl 2 rfl) ?_
          refine lv_iconst (v := iI 1) hx hb (dk_at dkX6_rowMask_1 0 rfl) (by decide +kernel) ?_
          refine lv_iload hx hb (dk_at dkX6_rowMask_1 1 rfl) (lv_at hl 0 rfl) ?_
          refine lv_ishl hx hb (dk_at dkX6_rowMask_1 2 rfl) ?_
          refine x_absE (fun z15 gz15 hz15 => ?_)
          refine lv_ior hx hb (dk_at dkX6_rowMask_1 3 rfl) ?_
          refine x_absE (fun z16 gz16 hz16 => ?_)
          refine lv_istore_n (lv' := [(2, .int (iI z16)), (4, .int (iI z10)), (3, .int (iI z1)), (0, .ref (q ta)), (1, .int (iI x1))]) hx hb (dk_at dkX6_rowMask_1 4 rfl) rfl hl (by decide) rfl (fun ls hl => ?_)
          exact J31_14 z16 _ _ _ (by omega) (fun zq ⟨mm1, hq⟩ => hk1 _ ⟨mm1 + 1, (u_d_X6_rowMask_1 ⟨f6, ⟨f7, (Or.inr ⟨c9, ⟨z10, ghw12, (Or.inr ⟨c13, ⟨z15, gz15.out, ⟨z16, gz16.out, hq⟩⟩⟩)⟩⟩)⟩⟩)⟩) hP hS (lv_sub hl [1, 2, 0, 3, 4] rfl)
  exact L4_4 _ 0 0 _ _ _ (by omega) (by omega) (fun zq ⟨mm1, hq⟩ => (u_r_X6_rowMask ⟨mm1, hq⟩)) rfl hP hS (lv_sub hl [0, 1, 2, 3] rfl)

abbrev tr_d_X0_prepareKeys_3 (K1 : Int → Int → St → Prop) (z5 : Int) (u : St) (z69 : Int) (A71 : St) : Prop := ((IK A71) ∧ ((-2147483648 ≤ z69 ∧ z69 ≤ 2147483647) ∧ (K1 (z5 + 1) z69 A71)))
def d_X0_prepareKeys_3 (K1 : Int → Int → St → Prop) (z5 : Int) (u : St) (z69 : Int) (A71 : St) : Prop := tr_d_X0_prepareKeys_3 K1 z5 u z69 A71
theorem u_d_X0_prepareKeys_3 {K1 : Int → Int → St → Prop} {z5 : Int} {u : St} {z69 : Int} {A71 : St} (h : tr_d_X0_prepareKeys_3 K1 z5 u z69 A71) : d_X0_prepareKeys_3 K1 z5 u z69 A71 := h
abbrev tr_d_X0_prepareKeys_2 (K1 : Int → Int → St → Prop) (ta : Nat) (z5 : Int) (z38 : Int) (z39 : Int) (u : St) (K2 : Int → St → Prop) (z41 : Int) (A43 : St) : Prop := ((IK A43) ∧ ((0 ≤ z41 ∧ z41 ≤ 2147483647) ∧ (((z38 ≤ z41) ∧ (d_X0_prepareKeys_3 K1 z5 u z39 A43)) ∨ ((¬ z38 ≤ z41) ∧ (∃ z57 : Int, z57 = A43 (9 + (z5).toNat) (z41).toNat ∧ (∃ z58 : Int, z58 = A43 ((ta + 22) + 5 + (z5).toNat) (z41).toNat ∧ (∃ z59 : Int, z59 = oShl 1 z58 ∧ (∃ z60 : Int, z60 = oOr z57 z59 ∧ (∃ A61 : St, A61 = stA A43 (9 + (z5).toNat) (z41 + 1).toNat z60 ∧ (K2 (z41 + 1) A61))))))))))
def d_X0_prepareKeys_2 (K1 : Int → Int → St → Prop) (ta : Nat) (z5 : Int) (z38 : Int) (z39 : Int) (u : St) : Nat → Int → St → Prop
  | 0, _, _ => False
  | nn9 + 1, z41, A43 => tr_d_X0_prepareKeys_2 K1 ta z5 z38 z39 u (fun z41 A43 => d_X0_prepareKeys_2 K1 ta z5 z38 z39 u nn9 z41 A43) z41 A43
theorem u_d_X0_prepareKeys_2 {K1 : Int → Int → St → Prop} {ta : Nat} {z5 : Int} {z38 : Int} {z39 : Int} {u : St} {nn9 : Nat} {z41 : Int} {A43 : St} (h : tr_d_X0_prepareKeys_2 K1 ta z5 z38 z39 u (fun z41 A43 => d_X0_prepareKeys_2 K1 ta z5 z38 z39 u nn9 z41 A43) z41 A43) : d_X0_prepareKeys_2 K1 ta z5 z38 z39 u (nn9 + 1) z41 A43 := h
abbrev tr_d_X0_prepareKeys_1 (ta : Nat) (x2 : Int) (A : St) (u : St) (K1 : Int → Int → St → Prop) (z5 : Int) (z6 : Int) (A8 : St) : Prop := ((IK A8) ∧ ((0 ≤ z5 ∧ z5 ≤ 2147483647) ∧ ((-2147483648 ≤ z6 ∧ z6 ≤ 2147483647) ∧ (((4 ≤ z5) ∧ (∃ A16 : St, A16 = stA A8 6 10 z6 ∧ (∃ z21 : Int, z21 = oShl z6 (A 6 9) ∧ (∃ z22 : Int, (z22 ≤ z21 ∧ z22 ≤ 76832 ∧ (z22 = z21 ∨ z22 = 76832)) ∧ (∃ A23 : St, A23 = stA A16 6 11 z22 ∧ (u = A23)))))) ∨ ((¬ 4 ≤ z5) ∧ (∃ A24 : St, A24 = stA A8 13 (z5).toNat 0 ∧ (∃ z27 : Int, z27 = A24 (ta + 1) (2 : Int).toNat ∧ (((z5 < z27) ∧ (∃ z30 : Int, z30 = oShr x2 z5 ∧ (∃ z31 : Int, z31 = oAnd z30 1 ∧ (((¬ z31 = 0) ∧ (∃ A33 : St, A33 = stA A24 13 (z5).toNat z6 ∧ (∃ z38 : Int, z38 = A33 ((ta + 22) + 3) (z5).toNat ∧ (∃ z39 : Int, z39 = oMul z6 (z38 + 1) ∧ (∃ A40 : St, A40 = stA A33 (9 + (z5).toNat) (0 : Int).toNat 0 ∧ (∃ nn9 : Nat, d_X0_prepareKeys_2 K1 ta z5 z38 z39 u nn9 0 A40)))))) ∨ ((z31 = 0) ∧ (∃ z64 : Int, q_X6_rowMask (ta + 22) z5 A24 z64 ∧ (∃ z67 : Int, z67 = oOr (A8 6 12) z64 ∧ (∃ A68 : St, A68 = stA A24 6 12 z67 ∧ (d_X0_prepareKeys_3 K1 z5 u z6 A68))))))))) ∨ ((¬ z5 < z27) ∧ (d_X0_prepareKeys_3 K1 z5 u z6 A24))))))))))
def d_X0_prepareKeys_1 (ta : Nat) (x2 : Int) (A : St) (u : St) : Nat → Int → Int → St → Prop
  | 0, _, _, _ => False
  | nn9 + 1, z5, z6, A8 => tr_d_X0_prepareKeys_1 ta x2 A u (fun z5 z6 A8 => d_X0_prepareKeys_1 ta x2 A u nn9 z5 z6 A8) z5 z6 A8
theorem u_d_X0_prepareKeys_1 {ta : Nat} {x2 : Int} {A : St} {u : St} {nn9 : Nat} {z5 : Int} {z6 : Int} {A8 : St} (h : tr_d_X0_prepareKeys_1 ta x2 A u (fun z5 z6 A8 => d_X0_prepareKeys_1 ta x2 A u nn9 z5 z6 A8) z5 z6 A8) : d_X0_prepareKeys_1 ta x2 A u (nn9 + 1) z5 z6 A8 := h
abbrev tr_r_X0_prepareKeys (ta : Nat) (x2 : Int) (A : St) (u : St) : Prop := (∃ A2 : St, A2 = stA A 6 12 (A ta 15) ∧ (∃ z4 : Int, z4 = A2 (ta + 1) (0 : Int).toNat ∧ (∃ nn9 : Nat, d_X0_prepareKeys_1 ta x2 A u nn9 0 z4 A2)))
def r_X0_prepareKeys (ta : Nat) (x2 : Int) (A : St) (u : St) : Prop := tr_r_X0_prepareKeys ta x2 A u
theorem u_r_X0_prepareKeys {ta : Nat} {x2 : Int} {A : St} {u : St} (h : tr_r_X0_prepareKeys ta x2 A u) : r_X0_prepareKeys ta x2 A u := h
def q_X0_prepareKeys (ta : Nat) (x2 : Int) (A : St) (u : St) : Prop := r_X0_prepareKeys ta x2 A u ∧ IK u ∧ fk [9, 10, 11, 12, 13] [(6, 10), (6, 11), (6, 12)] A u ∧ (True)
def ws_kc_X0_prepareKeys : List Cond := .code yX0_prepareKeys cX0_prepareKeys 6 none :: WY
set_option maxHeartbeats 4000000 in
set_option maxRecDepth 100000 in
theorem kc_X0_prepareKeys (l : Launch) (dC : Nat → ClassId) (dI : Nat → Nat → Nat) (cB cI cJ cZ cQ : ClassId) (aL aS : Nat) (q : Nat → Nat) (A : St) (ta : Nat) (x2 : Int) (hI : IK A) (hta : isT ta) (hx2 : (-2147483648 : Int) ≤ x2 ∧ x2 ≤ 2147483647) : KMv l yX0_prepareKeys ws_kc_X0_prepareKeys ({ frames := 2, cells := 0, slots := 0, locals := 46 } : Room) aL aS (dC, dI) (tyA cB cI cJ cZ cQ) (WK cB cI cJ cZ cQ q) A [.ref (q 6), .ref (q ta), .int (iI x2)] (fun u => r_X0_prepareKeys ta x2 A u ∧ IK u ∧ fk [9, 10, 11, 12, 13] [(6, 10), (6, 11), (6, 12)] A u ∧ (True)) := by
  refine k_metv (cc := cX0_prepareKeys) (maxL := 6) WK_adr (plainFor_of_name (by decide +kernel)) rfl (Nat.le_of_ble_eq_true rfl) (fun p e s m below meth c Q AS ls hx hb hml hown hts hK hDD hA0 hE RET H locs hP hS hl => ?_)
  have hown : s.vm.findClass RX0 = some m.cls := hown
  have hl : lv_has ls 6 [(0, .ref (q 6)), (1, .ref (q ta)), (2, .int (iI x2))] := hl
  have hiX9 : ∀ w ∈ u_ws RX9 TX9 16, w ∈ ws_kc_X0_prepareKeys := fun w h => List.mem_cons_of_mem _ (wy_layX9 w h)
  have hiX0 : ∀ w ∈ u_ws RX0 TX0 17, w ∈ ws_kc_X0_prepareKeys := fun w h => List.mem_cons_of_mem _ (wy_layX0 w h)
  have hiX6 : ∀ w ∈ u_ws RX6 TX6 4, w ∈ ws_kc_X0_prepareKeys := fun w h => List.mem_cons_of_mem _ (wy_layX6 w h)
  refine lv_aload_n hx hb (dk_at dkX0_prepareKeys_0 0 rfl) rfl (lv_at hl 0 rfl) ?_
  refine lv_aload_n hx hb (dk_at dkX0_prepareKeys_0 1 rfl) rfl (lv_at hl 1 rfl) ?_
  have r1 : (-2147483648 : Int) ≤ (A ta 15) ∧ (A ta 15) ≤ 2147483647 := irT_15 hta hI
  refine va_get (D := (dC, dI)) (ci := 9) (v := .int (iI (A ta 15))) (C := RX9) (T := TX9) (N := 16) hx hb hts hiX9 hown hK hP ta (wkT hta) rfl 15 (by decide) (hts _ (List.mem_cons_of_mem _ wkq_0_37)) (fun _ h9 => h9) rfl (dk_at dkX0_prepareKeys_0 2 rfl) ?_
  refine k_put (Wf := WK cB cI cJ cZ cQ q) (D := (dC, dI)) (ci := 0) (v := .int (iI (A ta 15))) (ty := .int) (C := RX0) (T := TX0) (N := 17) hx hb hts hiX0 tyX0 tyX0_ok nmX0 hown hK hP hDD hS 6 (wkAL) rfl 12 (by decide) (hts _ (List.mem_cons_of_mem _ wkq_0_38)) (fun _ h9 => h9) rfl (by decide +kernel) rfl rfl (Nat.le_of_ble_eq_true rfl) (dk_at dkX0_prepareKeys_0 3 rfl) (wfAL_12 (v := (A ta 15))) (fun H locs A2 hA2 hP hS => ?_)
  have hI := isAL_12 hA2 hI (show (-2147483648 : Int) ≤ (A ta 15) ∧ (A ta 15) ≤ 2147483647 from r1)
  refine lv_aload_n hx hb (dk_at dkX0_prepareKeys_0 4 rfl) rfl (lv_at hl 1 rfl) ?_
  refine va_get (D := (dC, dI)) (ci := 9) (v := .ref (q (ta + 1))) (C := RX9) (T := TX9) (N := 16) hx hb hts hiX9 hown hK hP ta (wkT hta) rfl 0 (by decide) (hts _ (List.mem_cons_of_mem _ wkq_0_1)) (fun _ h9 => h9) rfl (dk_at dkX0_prepareKeys_0 5 rfl) ?_
  refine lv_iconst (v := iI 0) hx hb (dk_at dkX0_prepareKeys_0 6 rfl) (by decide +kernel) ?_
  have a3 : ∀ k, A2 (ta + 1) k = A (ta + 1) k := fun k => rd_ne hA2 (by rcases hta with h | h <;> omega) k
  refine x_iald (Wf := WK cB cI cJ cZ cQ q) hx hb hK hP (ta + 1) 1 (wkTc hta) rfl (by decide) (by decide) (dk_at dkX0_prepareKeys_0 7 rfl) (fun z4 hz4 => ?_)
  have rz4 : (0 : Int) ≤ z4 ∧ z4 ≤ 8 := by rw [hz4]; exact irTc0 hta hI
  have gz4 := Hd.mk hz4
  have hz4 : z4 = A (ta + 1) (0 : Int).toNat := hz4.trans (a3 _)
  refine lv_istore_n (lv' := [(3, .int (iI z4)), (0, .ref (q 6)), (1, .ref (q ta)), (2, .int (iI x2))]) hx hb (dk_at dkX0_prepareKeys_0 8 rfl) rfl hl (by decide) rfl (fun ls hl => ?_)
  refine lv_iconst (v := iI 0) hx hb (dk_at dkX0_prepareKeys_0 9 rfl) (by decide +kernel) ?_
  refine lv_istore (lv' := [(4, .int (iI 0)), (3, .int (iI z4)), (0, .ref (q 6)), (1, .ref (q ta)), (2, .int (iI x2))]) hx hb (dk_at dkX0_prepareKeys_0 10 rfl) hl (by decide) rfl (fun ls hl => ?_)
  have L18_9 : ∀ (n13 : Nat) (z5 z6 : Int) (A8 : St) (H : Heap) (locs : List Loc) (ls : Array Slot), (0 ≤ z5 ∧ z5 ≤ 2147483647) → (-2147483648 ≤ z6 ∧ z6 ≤ 2147483647) → (∀ (u : St), (∃ mm1 : Nat, (d_X0_prepareKeys_1 ta x2 A u mm1 z5 z6 A8)) → r_X0_prepareKeys ta x2 A u) → ((5 - z5).toNat = n13) → IK A8 → fk [9, 10, 11, 12, 13] [(6, 12)] A2 A8 → va_P (dC, dI) vwCl (WK cB cI cJ cZ cQ q A8) H → va_S AS s.heap H locs → lv_has ls 6 [(4, .int (iI z5)), (3, .int (iI z6)), (0, .ref (q 6)), (1, .ref (q ta)), (2, .int (iI x2))] → W p l e (headSpec ws_kc_X0_prepareKeys ({ frames := 2, cells := 0, slots := 0, locals := 46 } : Room)).room s m [.ref (q 6), .ref (q ta), .int (iI x2)].toArray below meth c H locs 0 0 Q (F0 m 18 ls []) := by
    intro n13
    induction n13 using Nat.strongRecOn with
    | ind n13 ih10 =>
      intro z5 z6 A8 H locs ls f11 f12 hk1 hn13 hI hj7 hP hS hl
      have gI14 : Hd (IK A8) := Hd.mk hI
      refine lv_iload hx hb (dk_at dkX0_prepareKeys_0 11 rfl) (lv_at hl 0 rfl) ?_
      refine lv_iconst (v := iI 4) hx hb (dk_at dkX0_prepareKeys_0 12 rfl) (by decide +kernel) ?_
      refine lv_icmp_ge (tgt := 184) hx hb (dk_at dkX0_prepareKeys_0 13 rfl) (by decide) (fun c15 => ?_) (fun c15 => ?_)
      · have c15 : 4 ≤ z5 := (i_le ⟨by decide, by decide⟩ (rb f11 (by decide) (by decide))).mp c15
        refine lv_aload_n hx hb (dk_at dkX0_prepareKeys_6 8 rfl) rfl (lv_at hl 2 rfl) ?_
        refine lv_iload_n hx hb (dk_at dkX0_prepareKeys_6 9 rfl) rfl (lv_at hl 1 rfl) ?_
        refine k_put (Wf := WK cB cI cJ cZ cQ q) (D := (dC, dI)) (ci := 0) (v := .int (iI z6)) (ty := .int) (C := RX0) (T := TX0) (N := 17) hx hb hts hiX0 tyX0 tyX0_ok nmX0 hown hK hP hDD hS 6 (wkAL) rfl 10 (by decide) (hts _ (List.mem_cons_of_mem _ wkq_0_43)) (fun _ h9 => h9) rfl (by decide +kernel) rfl rfl (Nat.le_of_ble_eq_true rfl) (dk_at dkX0_prepareKeys_6 10 rfl) (wfAL_10 (v := z6)) (fun H locs A16 hA16 hP hS => ?_)
        have hI := isAL_10 hA16 hI (show (-2147483648 : Int) ≤ z6 ∧ z6 ≤ 2147483647 from f12)
        refine lv_aload_n hx hb (dk_at dkX0_prepareKeys_6 11 rfl) rfl (lv_at hl 2 rfl) ?_
        refine lv_iload_n hx hb (dk_at dkX0_prepareKeys_6 12 rfl) rfl (lv_at hl 1 rfl) ?_
        refine lv_aload_n hx hb (dk_at dkX0_prepareKeys_6 13 rfl) rfl (lv_at hl 2 rfl) ?_
        have e19 : A2 6 9 = (A 6 9) := (rd_at hA2 (by decide))
        have e18 : A8 6 9 = (A 6 9) := (hj7 6 9 rfl rfl).trans e19
        have e17 : A16 6 9 = (A 6 9) := (rd_at hA16 (by decide)).trans e18
        have r20 : (0 : Int) ≤ (A 6 9) ∧ (A 6 9) ≤ 2 := by rw [← e17]; exact irAL_9 hI
        refine va_get (D := (dC, dI)) (ci := 0) (v := .int (iI (A16 6 9))) (C := RX0) (T := TX0) (N := 17) hx hb hts hiX0 hown hK hP 6 (wkAL) rfl 9 (by decide) (hts _ (List.mem_cons_of_mem _ wkq_0_29)) (fun _ h9 => h9) rfl (dk_at dkX0_prepareKeys_6 14 rfl) ?_
        refine tp_i (y := iI (A 6 9)) (congrArg iI e17) ?_
        refine lv_ishl hx hb (dk_at dkX0_prepareKeys_6 15 rfl) ?_
        refine x_absE (fun z21 gz21 hz21 => ?_)
        refine lv_ldc (v := 76832) hx hb hown (hts _ (List.mem_cons_of_mem _ wkq_0_44)) (dk_at dkX0_prepareKeys_7 0 rfl) ?_
        refine tp_i (y := iI 76832) (by decide +kernel) ?_
        refine k_min hx hb (hml.trans hl.1.symm) hown (hts _ (List.mem_cons_of_mem _ wkq_0_45)) (hts _ (List.mem_cons_of_mem _ wkq_0_46)) (hts _ (List.mem_cons_of_mem _ wkq_0_47)) (hts _ (List.mem_cons_of_mem _ wkq_0_48)) (Nat.le_of_ble_eq_true rfl) (Nat.le_of_ble_eq_true rfl) (Nat.zero_le _) (Nat.zero_le _) hz21 ⟨by decide, by decide⟩ (dk_at dkX0_prepareKeys_7 1 rfl) (fun z22 hz22 => ?_)
        have rz22 : (-2147483648 : Int) ≤ z22 ∧ z22 ≤ 76832 := by omega
        have gz22 := Hd.mk hz22
        clear hz22
        refine k_put (Wf := WK cB cI cJ cZ cQ q) (D := (dC, dI)) (ci := 0) (v := .int (iI z22)) (ty := .int) (C := RX0) (T := TX0) (N := 17) hx hb hts hiX0 tyX0 tyX0_ok nmX0 hown hK hP hDD hS 6 (wkAL) rfl 11 (by decide) (hts _ (List.mem_cons_of_mem _ wkq_0_20)) (fun _ h9 => h9) rfl (by decide +kernel) rfl rfl (Nat.le_of_ble_eq_true rfl) (dk_at dkX0_prepareKeys_7 2 rfl) (wfAL_11 (v := z22)) (fun H locs A23 hA23 hP hS => ?_)
        have hI := isAL_11 hA23 hI (show (-2147483648 : Int) ≤ z22 ∧ z22 ≤ 76832 from rz22)
        exact RET _ _ _ _ _ ⟨hk1 _ ⟨0 + 1, (u_d_X0_prepareKeys_1 ⟨gI14.out, ⟨f11, ⟨f12, (Or.inl ⟨c15, ⟨A16, hA16, ⟨z21, gz21.out, ⟨z22, gz22.out, ⟨A23, hA23, rfl⟩⟩⟩⟩⟩)⟩⟩⟩)⟩, hI, fk.df (fk.df (fk.trans (fk.df (fk.rf) hA2 rfl) hj7 rfl rfl) hA16 rfl) hA23 rfl, trivial⟩ hP hS (dk_at dkX0_prepareKeys_7 3 rfl)
      · have c15 : ¬ 4 ≤ z5 := mt (i_le ⟨by decide, by decide⟩ (rb f11 (by decide) (by decide))).mpr c15
        refine lv_aload_n hx hb (dk_at dkX0_prepareKeys_0 14 rfl) rfl (lv_at hl 2 rfl) ?_
        refine va_get (D := (dC, dI)) (ci := 0) (v := .ref (q 13)) (C := RX0) (T := TX0) (N := 17) hx hb hts hiX0 hown hK hP 6 (wkAL) rfl 2 (by decide) (hts _ (List.mem_cons_of_mem _ wkq_0_39)) (fun _ h9 => h9) rfl (dk_at dkX0_prepareKeys_0 15 rfl) ?_
        refine lv_iload hx hb (dk_at dkX0_prepareKeys_1 0 rfl) (lv_at hl 0 rfl) ?_
        refine lv_iconst (v := iI 0) hx hb (dk_at dkX0_prepareKeys_1 1 rfl) (by decide +kernel) ?_
        refine k_iast (Wf := WK cB cI cJ cZ cQ q) hx hb hK hP hDD hS 13 1 (wkALu) rfl (by omega) (by decide) (dk_at dkX0_prepareKeys_1 2 rfl) (wsALu) (fun H locs A24 hA24 hP hS => ?_)
        have hI := isALu hA24 hI (show (-2147483648 : Int) ≤ 0 ∧ 0 ≤ 2147483647 from ⟨by decide, by decide⟩)
        refine lv_iload hx hb (dk_at dkX0_prepareKeys_1 3 rfl) (lv_at hl 0 rfl) ?_
        refine lv_aload_n hx hb (dk_at dkX0_prepareKeys_1 4 rfl) rfl (lv_at hl 3 rfl) ?_
        refine va_get (D := (dC, dI)) (ci := 9) (v := .ref (q (ta + 1))) (C := RX9) (T := TX9) (N := 16) hx hb hts hiX9 hown hK hP ta (wkT hta) rfl 0 (by decide) (hts _ (List.mem_cons_of_mem _ wkq_0_1)) (fun _ h9 => h9) rfl (dk_at dkX0_prepareKeys_1 5 rfl) ?_
        refine lv_iconst (v := iI 2) hx hb (dk_at dkX0_prepareKeys_1 6 rfl) (by decide +kernel) ?_
        have a26 : ∀ k, A8 (ta + 1) k = A (ta + 1) k := fun k => (hj7 (ta + 1) k (isT.b2 (o := fun b => List.contains [9, 10, 11, 12, 13] (b + 1)) hta rfl rfl) (isT.b2 (o := fun b => fin2 [(6, 12)] (b + 1) k) hta rfl rfl)).trans (a3 k)
        have a25 : ∀ k, A24 (ta + 1) k = A (ta + 1) k := fun k => (rd_ne hA24 (by rcases hta with h | h <;> omega) k).trans (a26 k)
        refine x_iald (Wf := WK cB cI cJ cZ cQ q) hx hb hK hP (ta + 1) 1 (wkTc hta) rfl (by decide) (by decide) (dk_at dkX0_prepareKeys_1 7 rfl) (fun z27 hz27 => ?_)
        have rz27 : (0 : Int) ≤ z27 ∧ z27 ≤ 4 := by rw [hz27]; exact irTc2 hta hI
        have gz27 := Hd.mk hz27
        have hz27 : z27 = A (ta + 1) (2 : Int).toNat := hz27.trans (a25 _)
        have J178_29 : ∀ (z69 : Int) (A71 : St) (H : Heap) (locs : List Loc) (ls : Array Slot), (-2147483648 ≤ z69 ∧ z69 ≤ 2147483647) → (∀ (u : St), (∃ mm1 : Nat, (d_X0_prepareKeys_3 (fun z5' z6' A8' => d_X0_prepareKeys_1 ta x2 A u mm1 z5' z6' A8') z5 u z69 A71)) → r_X0_prepareKeys ta x2 A u) → IK A71 → fk [9, 10, 11, 12, 13] [(6, 12)] A24 A71 → va_P (dC, dI) vwCl (WK cB cI cJ cZ cQ q A71) H → va_S AS s.heap H locs → lv_has ls 6 [(3, .int (iI z69)), (4, .int (iI z5)), (0, .ref (q 6)), (1, .ref (q ta)), (2, .int (iI x2))] → W p l e (headSpec ws_kc_X0_prepareKeys ({ frames := 2, cells := 0, slots := 0, locals := 46 } : Room)).room s m [.ref (q 6), .ref (q ta), .int (iI x2)].toArray below meth c H locs 0 0 Q (F0 m 178 ls []) := by
          intro z69 A71 H locs ls f72 hk3 hI hj70 hP hS hl
          have gI73 : Hd (IK A71) := Hd.mk hI
          refine lv_iinc (v := iI (z5 + 1)) (lv' := [(4, .int (iI (z5 + 1))), (3, .int (iI z69)), (0, .ref (q 6)), (1, .ref (q ta)), (2, .int (iI x2))]) hx hb (dk_at dkX0_prepareKeys_6 6 rfl) hl (k := 1) rfl (i_inc (by omega)) (by decide) rfl (fun ls hl => ?_)
          refine lv_goto (tgt := 18) hx hb (dk_at dkX0_prepareKeys_6 7 rfl) (by decide) ?_
          exact ih10 _ (by omega) (z5 + 1) z69 _ _ _ _ (by omega) (by omega) (fun uq ⟨mm1, hq⟩ => hk3 _ ⟨mm1, (u_d_X0_prepareKeys_3 ⟨gI73.out, ⟨f72, hq⟩⟩)⟩) rfl hI (fk.trans (fk.da (fk.trans (fk.rf) hj7 rfl rfl) hA24 rfl) hj70 rfl rfl) hP hS (lv_sub hl [0, 1, 2, 3, 4] rfl)
        refine lv_icmp_lt (tgt := 46) hx hb (dk_at dkX0_prepareKeys_1 8 rfl) (by decide) (fun c28 => ?_) (fun c28 => ?_)
        · have c28 : z5 < z27 := (i_lt (rb f11 (by decide) (by decide)) (rb rz27 (by decide) (by decide))).mp c28
          refine lv_iload_n hx hb (dk_at dkX0_prepareKeys_1 10 rfl) rfl (lv_at hl 4 rfl) ?_
          refine lv_iload hx hb (dk_at dkX0_prepareKeys_1 11 rfl) (lv_at hl 0 rfl) ?_
          refine lv_ishr hx hb (dk_at dkX0_prepareKeys_1 12 rfl) ?_
          refine x_absE (fun z30 gz30 hz30 => ?_)
          refine lv_iconst (v := iI 1) hx hb (dk_at dkX0_prepareKeys_1 13 rfl) (by decide +kernel) ?_
          refine lv_iand hx hb (dk_at dkX0_prepareKeys_1 14 rfl) ?_
          refine x_andE (b := 1) (by omega) (fun z31 gz31 hz31 => ?_)
          refine lv_if_ne (tgt := 76) hx hb (dk_at dkX0_prepareKeys_1 15 rfl) (by decide) (fun c32 => ?_) (fun c32 => ?_)
          · have c32 : ¬ z31 = 0 := mt (i_eq0 (by omega)).mpr c32
            refine lv_aload_n hx hb (dk_at dkX0_prepareKeys_2 10 rfl) rfl (lv_at hl 2 rfl) ?_
            refine va_get (D := (dC, dI)) (ci := 0) (v := .ref (q 13)) (C := RX0) (T := TX0) (N := 17) hx hb hts hiX0 hown hK hP 6 (wkAL) rfl 2 (by decide) (hts _ (List.mem_cons_of_mem _ wkq_0_39)) (fun _ h9 => h9) rfl (dk_at dkX0_prepareKeys_2 11 rfl) ?_
            refine lv_iload hx hb (dk_at dkX0_prepareKeys_2 12 rfl) (lv_at hl 0 rfl) ?_
            refine lv_iload_n hx hb (dk_at dkX0_prepareKeys_2 13 rfl) rfl (lv_at hl 1 rfl) ?_
            refine k_iast (Wf := WK cB cI cJ cZ cQ q) hx hb hK hP hDD hS 13 1 (wkALu) rfl (by omega) (by decide) (dk_at dkX0_prepareKeys_2 14 rfl) (wsALu) (fun H locs A33 hA33 hP hS => ?_)
            have hI := isALu hA33 hI (show (-2147483648 : Int) ≤ z6 ∧ z6 ≤ 2147483647 from f12)
            refine lv_iload_n hx hb (dk_at dkX0_prepareKeys_2 15 rfl) rfl (lv_at hl 1 rfl) ?_
            refine lv_aload_n hx hb (dk_at dkX0_prepareKeys_3 0 rfl) rfl (lv_at hl 3 rfl) ?_
            refine va_get (D := (dC, dI)) (ci := 9) (v := .ref (q (ta + 22))) (C := RX9) (T := TX9) (N := 16) hx hb hts hiX9 hown hK hP ta (wkT hta) rfl 14 (by decide) (hts _ (List.mem_cons_of_mem _ wkq_0_18)) (fun _ h9 => h9) rfl (dk_at dkX0_prepareKeys_3 1 rfl) ?_
            refine va_get (D := (dC, dI)) (ci := 6) (v := .ref (q ((ta + 22) + 3))) (C := RX6) (T := TX6) (N := 4) hx hb hts hiX6 hown hK hP (ta + 22) (wkS hta.s) rfl 2 (by decide) (hts _ (List.mem_cons_of_mem _ wkq_0_40)) (fun _ h9 => h9) rfl (dk_at dkX0_prepareKeys_3 2 rfl) ?_
            refine lv_iload hx hb (dk_at dkX0_prepareKeys_3 3 rfl) (lv_at hl 0 rfl) ?_
            have a37 : ∀ k, A2 ((ta + 22) + 3) k = A ((ta + 22) + 3) k := fun k => rd_ne hA2 (by rcases hta.s with h | h | h | h <;> omega) k
            have a36 : ∀ k, A8 ((ta + 22) + 3) k = A ((ta + 22) + 3) k := fun k => (hj7 ((ta + 22) + 3) k (isS.b2 (o := fun b => List.contains [9, 10, 11, 12, 13] (b + 3)) hta.s rfl rfl rfl rfl) (isS.b2 (o := fun b => fin2 [(6, 12)] (b + 3) k) hta.s rfl rfl rfl rfl)).trans (a37 k)
            have a35 : ∀ k, A24 ((ta + 22) + 3) k = A ((ta + 22) + 3) k := fun k => (rd_ne hA24 (by rcases hta.s with h | h | h | h <;> omega) k).trans (a36 k)
            have a34 : ∀ k, A33 ((ta + 22) + 3) k = A ((ta + 22) + 3) k := fun k => (rd_ne hA33 (by rcases hta.s with h | h | h | h <;> omega) k).trans (a35 k)
            refine x_iald (Wf := WK cB cI cJ cZ cQ q) hx hb hK hP ((ta + 22) + 3) 1 (wkSz hta.s) rfl (by omega) (by decide) (dk_at dkX0_prepareKeys_3 4 rfl) (fun z38 hz38 => ?_)
            have rz38 : (0 : Int) ≤ z38 ∧ z38 ≤ 6 := by rw [hz38]; exact irSz hta.s hI
            have gz38 := Hd.mk hz38
            have hz38 : z38 = A ((ta + 22) + 3) (z5).toNat := hz38.trans (a34 _)
            refine lv_iconst (v := iI 1) hx hb (dk_at dkX0_prepareKeys_3 5 rfl) (by decide +kernel) ?_
            refine x_addv (v := z38 + 1) hx hb (dk_at dkX0_prepareKeys_3 6 rfl) (by omega) ?_
            refine lv_imul hx hb (dk_at dkX0_prepareKeys_3 7 rfl) ?_
            refine x_absE (fun z39 gz39 hz39 => ?_)
            refine lv_istore_n (lv' := [(3, .int (iI z39)), (4, .int (iI z5)), (0, .ref (q 6)), (1, .ref (q ta)), (2, .int (iI x2))]) hx hb (dk_at dkX0_prepareKeys_3 8 rfl) rfl hl (by decide) rfl (fun ls hl => ?_)
            refine lv_aload_n hx hb (dk_at dkX0_prepareKeys_3 9 rfl) rfl (lv_at hl 2 rfl) ?_
            refine va_get (D := (dC, dI)) (ci := 0) (v := .ref (q 8)) (C := RX0) (T := TX0) (N := 17) hx hb hts hiX0 hown hK hP 6 (wkAL) rfl 1 (by decide) (hts _ (List.mem_cons_of_mem _ wkq_0_41)) (fun _ h9 => h9) rfl (dk_at dkX0_prepareKeys_3 10 rfl) ?_
            refine lv_iload hx hb (dk_at dkX0_prepareKeys_3 11 rfl) (lv_at hl 1 rfl) ?_
            refine k_aald (Wf := WK cB cI cJ cZ cQ q) hx hb hK hP 8 4 (wkALq) rfl (by omega) (by decide) (b := q (9 + (z5).toNat)) (by rcases (show z5 = 0 ∨ z5 = 1 ∨ z5 = 2 ∨ z5 = 3 by omega) with h | h | h | h <;> rw [h] <;> rfl) (dk_at dkX0_prepareKeys_3 12 rfl) ?_
            refine lv_iconst (v := iI 0) hx hb (dk_at dkX0_prepareKeys_3 13 rfl) (by decide +kernel) ?_
            refine lv_iconst (v := iI 0) hx hb (dk_at dkX0_prepareKeys_3 14 rfl) (by decide +kernel) ?_
            refine k_iast (Wf := WK cB cI cJ cZ cQ q) hx hb hK hP hDD hS (9 + (z5).toNat) 1 (wkALr (i := z5) (by omega)) rfl (by decide) (by decide) (dk_at dkX0_prepareKeys_3 15 rfl) (wsALr (i := z5) (by omega)) (fun H locs A40 hA40 hP hS => ?_)
            have hI := isALr (i := z5) (by omega) hA40 hI (show (-2147483648 : Int) ≤ 0 ∧ 0 ≤ 2147483647 from ⟨by decide, by decide⟩)
            refine lv_iconst (v := iI 0) hx hb (dk_at dkX0_prepareKeys_4 0 rfl) (by decide +kernel) ?_
            refine lv_istore (lv' := [(5, .int (iI 0)), (3, .int (iI z39)), (4, .int (iI z5)), (0, .ref (q 6)), (1, .ref (q ta)), (2, .int (iI x2))]) hx hb (dk_at dkX0_prepareKeys_4 1 rfl) hl (by decide) rfl (fun ls hl => ?_)
            have L112_44 : ∀ (n50 : Nat) (z41 : Int) (A43 : St) (H : Heap) (locs : List Loc) (ls : Array Slot), (0 ≤ z41 ∧ z41 ≤ 2147483647) → (∀ (u : St), (∃ mm1 mm2 : Nat, (d_X0_prepareKeys_2 (fun z5' z6' A8' => d_X0_prepareKeys_1 ta x2 A u mm1 z5' z6' A8') ta z5 z38 z39 u mm2 z41 A43)) → r_X0_prepareKeys ta x2 A u) → ((7 - z41).toNat = n50) → IK A43 → fk [9, 10, 11, 12] [] A40 A43 → va_P (dC, dI) vwCl (WK cB cI cJ cZ cQ q A43) H → va_S AS s.heap H locs → lv_has ls 6 [(5, .int (iI z41)), (3, .int (iI z39)), (4, .int (iI z5)), (0, .ref (q 6)), (1, .ref (q ta)), (2, .int (iI x2))] → W p l e (headSpec ws_kc_X0_prepareKeys ({ frames := 2, cells := 0, slots := 0, locals := 46 } : Room)).room s m [.ref (q 6), .ref (q ta), .int (iI x2)].toArray below meth c H locs 0 0 Q (F0 m 112 ls []) := by
              intro n50
              induction n50 using Nat.strongRecOn with
              | ind n50 ih45 =>
                intro z41 A43 H locs ls f46 hk2 hn50 hI hj42 hP hS hl
                have gI51 : Hd (IK A43) := Hd.mk hI
                refine lv_iload hx hb (dk_at dkX0_prepareKeys_4 2 rfl) (lv_at hl 0 rfl) ?_
                refine lv_aload_n hx hb (dk_at dkX0_prepareKeys_4 3 rfl) rfl (lv_at hl 4 rfl) ?_
                refine va_get (D := (dC, dI)) (ci := 9) (v := .ref (q (ta + 22))) (C := RX9) (T := TX9) (N := 16) hx hb hts hiX9 hown hK hP ta (wkT hta) rfl 14 (by decide) (hts _ (List.mem_cons_of_mem _ wkq_0_18)) (fun _ h9 => h9) rfl (dk_at dkX0_prepareKeys_4 4 rfl) ?_
                refine va_get (D := (dC, dI)) (ci := 6) (v := .ref (q ((ta + 22) + 3))) (C := RX6) (T := TX6) (N := 4) hx hb hts hiX6 hown hK hP (ta + 22) (wkS hta.s) rfl 2 (by decide) (hts _ (List.mem_cons_of_mem _ wkq_0_40)) (fun _ h9 => h9) rfl (dk_at dkX0_prepareKeys_4 5 rfl) ?_
                refine lv_iload hx hb (dk_at dkX0_prepareKeys_4 6 rfl) (lv_at hl 2 rfl) ?_
                have a53 : ∀ k, A40 ((ta + 22) + 3) k = A ((ta + 22) + 3) k := fun k => (rd_ne hA40 (by rcases hta.s with h | h | h | h <;> omega) k).trans (a34 k)
                have a52 : ∀ k, A43 ((ta + 22) + 3) k = A ((ta + 22) + 3) k := fun k => (hj42 ((ta + 22) + 3) k (isS.b2 (o := fun b => List.contains [9, 10, 11, 12] (b + 3)) hta.s rfl rfl rfl rfl) (isS.b2 (o := fun b => fin2 [] (b + 3) k) hta.s rfl rfl rfl rfl)).trans (a53 k)
                refine x_iald (Wf := WK cB cI cJ cZ cQ q) hx hb hK hP ((ta + 22) + 3) 1 (wkSz hta.s) rfl (by omega) (by decide) (dk_at dkX0_prepareKeys_4 7 rfl) (fun z54 hz54 => ?_)
                have rz54 : (0 : Int) ≤ z54 ∧ z54 ≤ 6 := by rw [hz54]; exact irSz hta.s hI
                have gz54 := Hd.mk hz54
                have hz54 : z54 = A ((ta + 22) + 3) (z5).toNat := hz54.trans (a52 _)
                have ez54 : z54 = z38 := hz54.trans hz38.symm
                refine tp_i (y := iI z38) (congrArg iI ez54) ?_
                refine lv_icmp_ge (tgt := 178) hx hb (dk_at dkX0_prepareKeys_4 8 rfl) (by decide) (fun c55 => ?_) (fun c55 => ?_)
                · have c55 : z38 ≤ z41 := (i_le (rb rz38 (by decide) (by decide)) (rb f46 (by decide) (by decide))).mp c55
                  exact J178_29 z39 _ _ _ _ (by omega) (fun uq ⟨mm1, hq⟩ => hk2 _ ⟨mm1, 0 + 1, (u_d_X0_prepareKeys_2 ⟨gI51.out, ⟨f46, (Or.inl ⟨c55, hq⟩)⟩⟩)⟩) hI (fk.trans (fk.da (fk.da (fk.rf) hA33 rfl) hA40 (by rcases (show z5 = 0 ∨ z5 = 1 ∨ z5 = 2 ∨ z5 = 3 by omega) with g | g | g | g <;> rw [g] <;> rfl)) hj42 rfl rfl) hP hS (lv_sub hl [1, 2, 3, 4, 5] rfl)
                · have c55 : ¬ z38 ≤ z41 := mt (i_le (rb rz38 (by decide) (by decide)) (rb f46 (by decide) (by decide))).mpr c55
                  refine lv_iload hx hb (dk_at dkX0_prepareKeys_4 9 rfl) (lv_at hl 0 rfl) ?_
                  refine lv_bipush (v := iI 6) hx hb (dk_at dkX0_prepareKeys_4 10 rfl) (by decide +kernel) ?_
                  refine lv_icmp_ge (tgt := 178) hx hb (dk_at dkX0_prepareKeys_4 11 rfl) (by decide) (fun c56 => False.elim (by have c56 : 6 ≤ z41 := (i_le ⟨by decide, by decide⟩ (rb f46 (by decide) (by decide))).mp c56; omega)) (fun _ => ?_)
                  refine lv_aload_n hx hb (dk_at dkX0_prepareKeys_4 12 rfl) rfl (lv_at hl 3 rfl) ?_
                  refine va_get (D := (dC, dI)) (ci := 0) (v := .ref (q 8)) (C := RX0) (T := TX0) (N := 17) hx hb hts hiX0 hown hK hP 6 (wkAL) rfl 1 (by decide) (hts _ (List.mem_cons_of_mem _ wkq_0_41)) (fun _ h9 => h9) rfl (dk_at dkX0_prepareKeys_4 13 rfl) ?_
                  refine lv_iload hx hb (dk_at dkX0_prepareKeys_4 14 rfl) (lv_at hl 2 rfl) ?_
                  refine k_aald (Wf := WK cB cI cJ cZ cQ q) hx hb hK hP 8 4 (wkALq) rfl (by omega) (by decide) (b := q (9 + (z5).toNat)) (by rcases (show z5 = 0 ∨ z5 = 1 ∨ z5 = 2 ∨ z5 = 3 by omega) with h | h | h | h <;> rw [h] <;> rfl) (dk_at dkX0_prepareKeys_4 15 rfl) ?_
                  refine lv_iload hx hb (dk_at dkX0_prepareKeys_5 0 rfl) (lv_at hl 0 rfl) ?_
                  refine lv_iconst (v := iI 1) hx hb (dk_at dkX0_prepareKeys_5 1 rfl) (by decide +kernel) ?_
                  refine x_addv (v := z41 + 1) hx hb (dk_at dkX0_prepareKeys_5 2 rfl) (by omega) ?_
                  refine lv_aload_n hx hb (dk_at dkX0_prepareKeys_5 3 rfl) rfl (lv_at hl 3 rfl) ?_
                  refine va_get (D := (dC, dI)) (ci := 0) (v := .ref (q 8)) (C := RX0) (T := TX0) (N := 17) hx hb hts hiX0 hown hK hP 6 (wkAL) rfl 1 (by decide) (hts _ (List.mem_cons_of_mem _ wkq_0_41)) (fun _ h9 => h9) rfl (dk_at dkX0_prepareKeys_5 4 rfl) ?_
                  refine lv_iload hx hb (dk_at dkX0_prepareKeys_5 5 rfl) (lv_at hl 2 rfl) ?_
                  refine k_aald (Wf := WK cB cI cJ cZ cQ q) hx hb hK hP 8 4 (wkALq) rfl (by omega) (by decide) (b := q (9 + (z5).toNat)) (by rcases (show z5 = 0 ∨ z5 = 1 ∨ z5 = 2 ∨ z5 = 3 by omega) with h | h | h | h <;> rw [h] <;> rfl) (dk_at dkX0_prepareKeys_5 6 rfl) ?_
                  refine lv_iload hx hb (dk_at dkX0_prepareKeys_5 7 rfl) (lv_at hl 0 rfl) ?_
                  refine x_iald (Wf := WK cB cI cJ cZ cQ q) hx hb hK hP (9 + (z5).toNat) 1 (wkALr (i := z5) (by omega)) rfl (by omega) (by decide) (dk_at dkX0_prepareKeys_5 8 rfl) (fun z57 hz57 => ?_)
                  have rz57 : (-2147483648 : Int) ≤ z57 ∧ z57 ≤ 2147483647 := by rw [hz57]; exact irALr (i := z5) (by omega) hI
                  have gz57 := Hd.mk hz57
                  refine lv_iconst (v := iI 1) hx hb (dk_at dkX0_prepareKeys_5 9 rfl) (by decide +kernel) ?_
                  refine lv_aload_n hx hb (dk_at dkX0_prepareKeys_5 10 rfl) rfl (lv_at hl 4 rfl) ?_
                  refine va_get (D := (dC, dI)) (ci := 9) (v := .ref (q (ta + 22))) (C := RX9) (T := TX9) (N := 16) hx hb hts hiX9 hown hK hP ta (wkT hta) rfl 14 (by decide) (hts _ (List.mem_cons_of_mem _ wkq_0_18)) (fun _ h9 => h9) rfl (dk_at dkX0_prepareKeys_5 11 rfl) ?_
                  refine va_get (D := (dC, dI)) (ci := 6) (v := .ref (q ((ta + 22) + 4))) (C := RX6) (T := TX6) (N := 4) hx hb hts hiX6 hown hK hP (ta + 22) (wkS hta.s) rfl 3 (by decide) (hts _ (List.mem_cons_of_mem _ wkq_0_42)) (fun _ h9 => h9) rfl (dk_at dkX0_prepareKeys_5 12 rfl) ?_
                  refine lv_iload hx hb (dk_at dkX0_prepareKeys_5 13 rfl) (lv_at hl 2 rfl) ?_
                  refine k_aald (Wf := WK cB cI cJ cZ cQ q) hx hb hK hP ((ta + 22) + 4) 4 (wkSq hta.s) rfl (by omega) (by decide) (b := q ((ta + 22) + 5 + (z5).toNat)) (by rcases (show z5 = 0 ∨ z5 = 1 ∨ z5 = 2 ∨ z5 = 3 by omega) with h | h | h | h <;> rw [h] <;> rfl) (dk_at dkX0_prepareKeys_5 14 rfl) ?_
                  refine lv_iload hx hb (dk_at dkX0_prepareKeys_5 15 rfl) (lv_at hl 0 rfl) ?_
                  refine x_iald (Wf := WK cB cI cJ cZ cQ q) hx hb hK hP ((ta + 22) + 5 + (z5).toNat) 1 (wkSr hta.s (i := z5) (by omega)) rfl (by omega) (by decide) (dk_at dkX0_prepareKeys_6 0 rfl) (fun z58 hz58 => ?_)
                  have rz58 : (-2147483648 : Int) ≤ z58 ∧ z58 ≤ 2147483647 := by rw [hz58]; exact irSr hta.s (i := z5) (by omega) hI
                  have gz58 := Hd.mk hz58
                  refine lv_ishl hx hb (dk_at dkX0_prepareKeys_6 1 rfl) ?_
                  refine x_absE (fun z59 gz59 hz59 => ?_)
                  refine lv_ior hx hb (dk_at dkX0_prepareKeys_6 2 rfl) ?_
                  refine x_absE (fun z60 gz60 hz60 => ?_)
                  refine k_iast (Wf := WK cB cI cJ cZ cQ q) hx hb hK hP hDD hS (9 + (z5).toNat) 1 (wkALr (i := z5) (by omega)) rfl (by omega) (by decide) (dk_at dkX0_prepareKeys_6 3 rfl) (wsALr (i := z5) (by omega)) (fun H locs A61 hA61 hP hS => ?_)
                  have hI := isALr (i := z5) (by omega) hA61 hI (show (-2147483648 : Int) ≤ z60 ∧ z60 ≤ 2147483647 from hz60)
                  refine lv_iinc (v := iI (z41 + 1)) (lv' := [(5, .int (iI (z41 + 1))), (3, .int (iI z39)), (4, .int (iI z5)), (0, .ref (q 6)), (1, .ref (q ta)), (2, .int (iI x2))]) hx hb (dk_at dkX0_prepareKeys_6 4 rfl) hl (k := 0) rfl (i_inc (by omega)) (by decide) rfl (fun ls hl => ?_)
                  refine lv_goto (tgt := 112) hx hb (dk_at dkX0_prepareKeys_6 5 rfl) (by decide) ?_
                  exact ih45 _ (by omega) (z41 + 1) _ _ _ _ (by omega) (fun uq ⟨mm1, mm2, hq⟩ => hk2 _ ⟨mm1, mm2 + 1, (u_d_X0_prepareKeys_2 ⟨gI51.out, ⟨f46, (Or.inr ⟨c55, ⟨z57, gz57.out, ⟨z58, gz58.out, ⟨z59, gz59.out, ⟨z60, gz60.out, ⟨A61, hA61, hq⟩⟩⟩⟩⟩⟩)⟩⟩)⟩) rfl hI (fk.da (fk.trans (fk.rf) hj42 rfl rfl) hA61 (by rcases (show z5 = 0 ∨ z5 = 1 ∨ z5 = 2 ∨ z5 = 3 by omega) with g | g | g | g <;> rw [g] <;> rfl)) hP hS (lv_sub hl [0, 1, 2, 3, 4, 5] rfl)
            exact L112_44 _ 0 _ _ _ _ (by omega) (fun uq ⟨mm1, mm2, hq⟩ => hk1 _ ⟨mm1 + 1, (u_d_X0_prepareKeys_1 ⟨gI14.out, ⟨f11, ⟨f12, (Or.inr ⟨c15, ⟨A24, hA24, ⟨z27, gz27.out, (Or.inl ⟨c28, ⟨z30, gz30.out, ⟨z31, gz31.out, (Or.inl ⟨c32, ⟨A33, hA33, ⟨z38, gz38.out, ⟨z39, gz39.out, ⟨A40, hA40, ⟨mm2, hq⟩⟩⟩⟩⟩⟩)⟩⟩⟩)⟩⟩⟩)⟩⟩⟩)⟩) rfl hI (fk.rf) hP hS (lv_sub hl [0, 1, 2, 3, 4, 5] rfl)
          · have c32 : z31 = 0 := (i_eq0 (by omega)).mp c32
            refine lv_aload_n hx hb (dk_at dkX0_prepareKeys_2 0 rfl) rfl (lv_at hl 2 rfl) ?_
            refine lv_dup hx hb (dk_at dkX0_prepareKeys_2 1 rfl) rfl ?_
            have e62 : A24 6 12 = (A8 6 12) := (rd_ne hA24 (by decide) 12)
            have r63 : (-2147483648 : Int) ≤ (A8 6 12) ∧ (A8 6 12) ≤ 2147483647 := by rw [← e62]; exact irAL_12 hI
            refine va_get (D := (dC, dI)) (ci := 0) (v := .int (iI (A24 6 12))) (C := RX0) (T := TX0) (N := 17) hx hb hts hiX0 hown hK hP 6 (wkAL) rfl 12 (by decide) (hts _ (List.mem_cons_of_mem _ wkq_0_38)) (fun _ h9 => h9) rfl (dk_at dkX0_prepareKeys_2 2 rfl) ?_
            refine tp_i (y := iI (A8 6 12)) (congrArg iI e62) ?_
            refine lv_aload_n hx hb (dk_at dkX0_prepareKeys_2 3 rfl) rfl (lv_at hl 3 rfl) ?_
            refine va_get (D := (dC, dI)) (ci := 9) (v := .ref (q (ta + 22))) (C := RX9) (T := TX9) (N := 16) hx hb hts hiX9 hown hK hP ta (wkT hta) rfl 14 (by decide) (hts _ (List.mem_cons_of_mem _ wkq_0_18)) (fun _ h9 => h9) rfl (dk_at dkX0_prepareKeys_2 4 rfl) ?_
            refine lv_iload hx hb (dk_at dkX0_prepareKeys_2 5 rfl) (lv_at hl 0 rfl) ?_
            refine k_calli (As := [.int (iI z5)]) (rest := [.int (iI (A8 6 12)), .ref (q 6)]) ⟨hx, hb, hml, hown, hts⟩ hE (kc_X6_rowMask l dC dI cB cI cJ cZ cQ aL aS q _ (ta + 22) z5 hI hta.s (rb f11 (by decide) (by decide))) (cwV 1 hts (goodVk wkq_0_49 wkq_0_50 wkq_0_51 wkq_0_52 wkq_0_53) rfl rfl rfl (by decide +kernel) ⟨Nat.le_of_ble_eq_true rfl, Nat.le_of_ble_eq_true rfl⟩) hK hDD hA0 hP hS (ta + 22) 6 (wkS hta.s) rfl rfl hl.1 (Nat.le_of_ble_eq_true rfl) (dk_at dkX0_prepareKeys_2 6 rfl) (fun z64 A65 H locs hw66 hP hS => ?_)
            obtain ⟨rfl, hw66⟩ := hw66
            have ghw66 : q_X6_rowMask (ta + 22) z5 A24 z64 := hw66
            have hw66 := hw66.2
            refine lv_ior hx hb (dk_at dkX0_prepareKeys_2 7 rfl) ?_
            refine x_absE (fun z67 gz67 hz67 => ?_)
            refine k_put (Wf := WK cB cI cJ cZ cQ q) (D := (dC, dI)) (ci := 0) (v := .int (iI z67)) (ty := .int) (C := RX0) (T := TX0) (N := 17) hx hb hts hiX0 tyX0 tyX0_ok nmX0 hown hK hP hDD hS 6 (wkAL) rfl 12 (by decide) (hts _ (List.mem_cons_of_mem _ wkq_0_38)) (fun _ h9 => h9) rfl (by decide +kernel) rfl rfl (Nat.le_of_ble_eq_true rfl) (dk_at dkX0_prepareKeys_2 8 rfl) (wfAL_12 (v := z67)) (fun H locs A68 hA68 hP hS => ?_)
            have hI := isAL_12 hA68 hI (show (-2147483648 : Int) ≤ z67 ∧ z67 ≤ 2147483647 from hz67)
            refine lv_goto (tgt := 178) hx hb (dk_at dkX0_prepareKeys_2 9 rfl) (by decide) ?_
            exact J178_29 z6 _ _ _ _ (by omega) (fun uq ⟨mm1, hq⟩ => hk1 _ ⟨mm1 + 1, (u_d_X0_prepareKeys_1 ⟨gI14.out, ⟨f11, ⟨f12, (Or.inr ⟨c15, ⟨A24, hA24, ⟨z27, gz27.out, (Or.inl ⟨c28, ⟨z30, gz30.out, ⟨z31, gz31.out, (Or.inr ⟨c32, ⟨z64, ghw66, ⟨z67, gz67.out, ⟨A68, hA68, hq⟩⟩⟩⟩)⟩⟩⟩)⟩⟩⟩)⟩⟩⟩)⟩) hI (fk.df (fk.rf) hA68 rfl) hP hS (lv_sub hl [1, 0, 2, 3, 4] rfl)
        · have c28 : ¬ z5 < z27 := mt (i_lt (rb f11 (by decide) (by decide)) (rb rz27 (by decide) (by decide))).mpr c28
          refine lv_goto (tgt := 178) hx hb (dk_at dkX0_prepareKeys_1 9 rfl) (by decide) ?_
          exact J178_29 z6 _ _ _ _ (by omega) (fun uq ⟨mm1, hq⟩ => hk1 _ ⟨mm1 + 1, (u_d_X0_prepareKeys_1 ⟨gI14.out, ⟨f11, ⟨f12, (Or.inr ⟨c15, ⟨A24, hA24, ⟨z27, gz27.out, (Or.inr ⟨c28, hq⟩)⟩⟩⟩)⟩⟩⟩)⟩) hI (fk.rf) hP hS (lv_sub hl [1, 0, 2, 3, 4] rfl)
  exact L18_9 _ 0 z4 _ _ _ _ (by omega) (by omega) (fun uq ⟨mm1, hq⟩ => (u_r_X0_prepareKeys ⟨A2, hA2, ⟨z4, gz4.out, ⟨mm1, hq⟩⟩⟩)) rfl hI (fk.rf) hP hS (lv_sub hl [0, 1, 2, 3, 4] rfl)

abbrev tr_r_X9_isBox (ta : Nat) (x1 : Int) (A : St) (z : Int) : Prop := (((x1 < 0) ∧ (z = 0)) ∨ ((¬ x1 < 0) ∧ (∃ z2 : Int, z2 = A (ta + 1) (1 : Int).toNat ∧ (((z2 ≤ x1) ∧ (z = 0)) ∨ ((¬ z2 ≤ x1) ∧ (∃ z4 : Int, z4 = A (ta + 10) (x1).toNat ∧ (((¬ z4 = 0) ∧ (z = 0)) ∨ ((z4 = 0) ∧ (z = 1)))))))))
def r_X9_isBox (ta : Nat) (x1 : Int) (A : St) (z : Int) : Prop := tr_r_X9_isBox ta x1 A z
theorem u_r_X9_isBox {ta : Nat} {x1 : Int} {A : St} {z : Int} (h : tr_r_X9_isBox ta x1 A z) : r_X9_isBox ta x1 A z := h
def q_X9_isBox (ta : Nat) (x1 : Int) (A : St) (z : Int) : Prop := r_X9_isBox ta x1 A z ∧ ((0 ≤ z ∧ z ≤ 1) ∧ (z = 1 → 0 ≤ x1 ∧ x1 ≤ 9))
def ws_kc_X9_isBox : List Cond := .code yX9_isBox cX9_isBox 2 (some .boolean) :: WY
set_option maxHeartbeats 4000000 in
set_option maxRecDepth 100000 in
theorem kc_X9_isBox (l : Launch) (dC : Nat → ClassId) (dI : Nat → Nat → Nat) (cB cI cJ cZ cQ : ClassId) (aL aS : Nat) (q : Nat → Nat) (A : St) (ta : Nat) (x1 : Int) (hI : IK A) (hta : isT ta) (hx1 : (-2147483648 : Int) ≤ x1 ∧ x1 ≤ 2147483647) : KMi l yX9_isBox ws_kc_X9_isBox ({ frames := 0, cells := 0, slots := 0, locals := 0 } : Room) aL aS (dC, dI) (tyA cB cI cJ cZ cQ) (WK cB cI cJ cZ cQ q) A [.ref (q ta), .int (iI x1)] (fun z u => A = u ∧ r_X9_isBox ta x1 A z ∧ ((0 ≤ z ∧ z ≤ 1) ∧ (z = 1 → 0 ≤ x1 ∧ x1 ≤ 9))) := by
  refine k_metz (cc := cX9_isBox) (maxL := 2) WK_adr (plainFor_of_name (by decide +kernel)) rfl (Nat.le_of_ble_eq_true rfl) (fun z u h => h.2.2.1) (fun p e s m below meth c Q AS ls hx hb hml hown hts hK hDD hA0 hE RET H locs hP hS hl => ?_)
  have hown : s.vm.findClass RX9 = some m.cls := hown
  have hl : lv_has ls 2 [(0, .ref (q ta)), (1, .int (iI x1))] := hl
  have hiX9 : ∀ w ∈ u_ws RX9 TX9 16, w ∈ ws_kc_X9_isBox := fun w h => List.mem_cons_of_mem _ (wy_layX9 w h)
  refine lv_iload_n hx hb (dk_at dkX9_isBox_0 0 rfl) rfl (lv_at hl 1 rfl) ?_
  refine lv_if_lt (tgt := 27) hx hb (dk_at dkX9_isBox_0 1 rfl) (by decide) (fun c1 => ?_) (fun c1 => ?_)
  · have c1 : x1 < 0 := (i_lt0 hx1).mp c1
    refine lv_iconst (v := iI 0) hx hb (dk_at dkX9_isBox_0 15 rfl) (by decide +kernel) ?_
    exact RET 0 _ _ _ _ _ ⟨rfl, (u_r_X9_isBox (Or.inl ⟨c1, rfl⟩)), by omega⟩ hP hS (dk_at dkX9_isBox_1 0 rfl)
  · have c1 : ¬ x1 < 0 := mt (i_lt0 hx1).mpr c1
    refine lv_iload_n hx hb (dk_at dkX9_isBox_0 2 rfl) rfl (lv_at hl 1 rfl) ?_
    refine lv_aload_n hx hb (dk_at dkX9_isBox_0 3 rfl) rfl (lv_at hl 0 rfl) ?_
    refine va_get (D := (dC, dI)) (ci := 9) (v := .ref (q (ta + 1))) (C := RX9) (T := TX9) (N := 16) hx hb hts hiX9 hown hK hP ta (wkT hta) rfl 0 (by decide) (hts _ (List.mem_cons_of_mem _ wkq_0_8)) (fun _ h9 => h9) rfl (dk_at dkX9_isBox_0 4 rfl) ?_
    refine lv_iconst (v := iI 1) hx hb (dk_at dkX9_isBox_0 5 rfl) (by decide +kernel) ?_
    refine x_iald (Wf := WK cB cI cJ cZ cQ q) hx hb hK hP (ta + 1) 1 (wkTc hta) rfl (by decide) (by decide) (dk_at dkX9_isBox_0 6 rfl) (fun z2 hz2 => ?_)
    have rz2 : (0 : Int) ≤ z2 ∧ z2 ≤ 10 := by rw [hz2]; exact irTc1 hta hI
    have gz2 := Hd.mk hz2
    refine lv_icmp_ge (tgt := 27) hx hb (dk_at dkX9_isBox_0 7 rfl) (by decide) (fun c3 => ?_) (fun c3 => ?_)
    · have c3 : z2 ≤ x1 := (i_le (rb rz2 (by decide) (by decide)) hx1).mp c3
      refine lv_iconst (v := iI 0) hx hb (dk_at dkX9_isBox_0 15 rfl) (by decide +kernel) ?_
      exact RET 0 _ _ _ _ _ ⟨rfl, (u_r_X9_isBox (Or.inr ⟨c1, ⟨z2, gz2.out, (Or.inl ⟨c3, rfl⟩)⟩⟩)), by omega⟩ hP hS (dk_at dkX9_isBox_1 0 rfl)
    · have c3 : ¬ z2 ≤ x1 := mt (i_le (rb rz2 (by decide) (by decide)) hx1).mpr c3
      refine lv_aload_n hx hb (dk_at dkX9_isBox_0 8 rfl) rfl (lv_at hl 0 rfl) ?_
      refine va_get (D := (dC, dI)) (ci := 9) (v := .ref (q (ta + 10))) (C := RX9) (T := TX9) (N := 16) hx hb hts hiX9 hown hK hP ta (wkT hta) rfl 4 (by decide) (hts _ (List.mem_cons_of_mem _ wkq_1_9)) (fun _ h9 => h9) rfl (dk_at dkX9_isBox_0 9 rfl) ?_
      refine lv_iload_n hx hb (dk_at dkX9_isBox_0 10 rfl) rfl (lv_at hl 1 rfl) ?_
      refine x_iald (Wf := WK cB cI cJ cZ cQ q) hx hb hK hP (ta + 10) 1 (wkTm hta) rfl (by omega) (by decide) (dk_at dkX9_isBox_0 11 rfl) (fun z4 hz4 => ?_)
      have rz4 : (-2147483648 : Int) ≤ z4 ∧ z4 ≤ 2147483647 := by rw [hz4]; exact irTm hta hI
      have gz4 := Hd.mk hz4
      refine lv_if_ne (tgt := 27) hx hb (dk_at dkX9_isBox_0 12 rfl) (by decide) (fun c5 => ?_) (fun c5 => ?_)
      · have c5 : ¬ z4 = 0 := mt (i_eq0 rz4).mpr c5
        refine lv_iconst (v := iI 0) hx hb (dk_at dkX9_isBox_0 15 rfl) (by decide +kernel) ?_
        exact RET 0 _ _ _ _ _ ⟨rfl, (u_r_X9_isBox (Or.inr ⟨c1, ⟨z2, gz2.out, (Or.inr ⟨c3, ⟨z4, gz4.out, (Or.inl ⟨c5, rfl⟩)⟩⟩)⟩⟩)), by omega⟩ hP hS (dk_at dkX9_isBox_1 0 rfl)
      · have c5 : z4 = 0 := (i_eq0 rz4).mp c5
        refine lv_iconst (v := iI 1) hx hb (dk_at dkX9_isBox_0 13 rfl) (by decide +kernel) ?_
        refine lv_goto (tgt := 28) hx hb (dk_at dkX9_isBox_0 14 rfl) (by decide) ?_
        exact RET 1 _ _ _ _ _ ⟨rfl, (u_r_X9_isBox (Or.inr ⟨c1, ⟨z2, gz2.out, (Or.inr ⟨c3, ⟨z4, gz4.out, (Or.inr ⟨c5, rfl⟩)⟩⟩)⟩⟩)), by omega⟩ hP hS (dk_at dkX9_isBox_1 0 rfl)

abbrev tr_r_X9_isAt (ta : Nat) (x1 : Int) (x2 : Int) (A : St) (z : Int) : Prop := (((x1 < 0) ∧ (z = 0)) ∨ ((¬ x1 < 0) ∧ (∃ z2 : Int, z2 = A (ta + 1) (1 : Int).toNat ∧ (((z2 ≤ x1) ∧ (z = 0)) ∨ ((¬ z2 ≤ x1) ∧ (∃ z4 : Int, z4 = A (ta + 8) (x1).toNat ∧ (((z4 = x2) ∧ (z = 1)) ∨ ((¬ z4 = x2) ∧ (∃ z6 : Int, z6 = A (ta + 9) (x1).toNat ∧ (((¬ z6 = x2) ∧ (z = 0)) ∨ ((z6 = x2) ∧ (z = 1))))))))))))
def r_X9_isAt (ta : Nat) (x1 : Int) (x2 : Int) (A : St) (z : Int) : Prop := tr_r_X9_isAt ta x1 x2 A z
theorem u_r_X9_isAt {ta : Nat} {x1 : Int} {x2 : Int} {A : St} {z : Int} (h : tr_r_X9_isAt ta x1 x2 A z) : r_X9_isAt ta x1 x2 A z := h
def q_X9_isAt (ta : Nat) (x1 : Int) (x2 : Int) (A : St) (z : Int) : Prop := r_X9_isAt ta x1 x2 A z ∧ ((0 ≤ z ∧ z ≤ 1) ∧ (z = 1 → 0 ≤ x1 ∧ x1 ≤ 9))
def ws_kc_X9_isAt : List Cond := .code yX9_isAt cX9_isAt 3 (some .boolean) :: WY
set_option maxHeartbeats 4000000 in
set_option maxRecDepth 100000 in
theorem kc_X9_isAt (l : Launch) (dC : Nat → ClassId) (dI : Nat → Nat → Nat) (cB cI cJ cZ cQ : ClassId) (aL aS : Nat) (q : Nat → Nat) (A : St) (ta : Nat) (x1 x2 : Int) (hI : IK A) (hta : isT ta) (hx1 : (-2147483648 : Int) ≤ x1 ∧ x1 ≤ 2147483647) (hx2 : (-2147483648 : Int) ≤ x2 ∧ x2 ≤ 2147483647) : KMi l yX9_isAt ws_kc_X9_isAt ({ frames := 0, cells := 0, slots := 0, locals := 0 } : Room) aL aS (dC, dI) (tyA cB cI cJ cZ cQ) (WK cB cI cJ cZ cQ q) A [.ref (q ta), .int (iI x1), .int (iI x2)] (fun z u => A = u ∧ r_X9_isAt ta x1 x2 A z ∧ ((0 ≤ z ∧ z ≤ 1) ∧ (z = 1 → 0 ≤ x1 ∧ x1 ≤ 9))) := by
  refine k_metz (cc := cX9_isAt) (maxL := 3) WK_adr (plainFor_of_name (by decide +kernel)) rfl (Nat.le_of_ble_eq_true rfl) (fun z u h => h.2.2.1) (fun p e s m below meth c Q AS ls hx hb hml hown hts hK hDD hA0 hE RET H locs hP hS hl => ?_)
  have hown : s.vm.findClass RX9 = some m.cls := hown
  have hl : lv_has ls 3 [(0, .ref (q ta)), (1, .int (iI x1)), (2, .int (iI x2))] := hl
  have hiX9 : ∀ w ∈ u_ws RX9 TX9 16, w ∈ ws_kc_X9_isAt := fun w h => List.mem_cons_of_mem _ (wy_layX9 w h)
  refine lv_iload_n hx hb (dk_at dkX9_isAt_0 0 rfl) rfl (lv_at hl 1 rfl) ?_
  refine lv_if_lt (tgt := 38) hx hb (dk_at dkX9_isAt_0 1 rfl) (by decide) (fun c1 => ?_) (fun c1 => ?_)
  · have c1 : x1 < 0 := (i_lt0 hx1).mp c1
    refine lv_iconst (v := iI 0) hx hb (dk_at dkX9_isAt_1 6 rfl) (by decide +kernel) ?_
    exact RET 0 _ _ _ _ _ ⟨rfl, (u_r_X9_isAt (Or.inl ⟨c1, rfl⟩)), by omega⟩ hP hS (dk_at dkX9_isAt_1 7 rfl)
  · have c1 : ¬ x1 < 0 := mt (i_lt0 hx1).mpr c1
    refine lv_iload_n hx hb (dk_at dkX9_isAt_0 2 rfl) rfl (lv_at hl 1 rfl) ?_
    refine lv_aload_n hx hb (dk_at dkX9_isAt_0 3 rfl) rfl (lv_at hl 0 rfl) ?_
    refine va_get (D := (dC, dI)) (ci := 9) (v := .ref (q (ta + 1))) (C := RX9) (T := TX9) (N := 16) hx hb hts hiX9 hown hK hP ta (wkT hta) rfl 0 (by decide) (hts _ (List.mem_cons_of_mem _ wkq_0_8)) (fun _ h9 => h9) rfl (dk_at dkX9_isAt_0 4 rfl) ?_
    refine lv_iconst (v := iI 1) hx hb (dk_at dkX9_isAt_0 5 rfl) (by decide +kernel) ?_
    refine x_iald (Wf := WK cB cI cJ cZ cQ q) hx hb hK hP (ta + 1) 1 (wkTc hta) rfl (by decide) (by decide) (dk_at dkX9_isAt_0 6 rfl) (fun z2 hz2 => ?_)
    have rz2 : (0 : Int) ≤ z2 ∧ z2 ≤ 10 := by rw [hz2]; exact irTc1 hta hI
    have gz2 := Hd.mk hz2
    refine lv_icmp_ge (tgt := 38) hx hb (dk_at dkX9_isAt_0 7 rfl) (by decide) (fun c3 => ?_) (fun c3 => ?_)
    · have c3 : z2 ≤ x1 := (i_le (rb rz2 (by decide) (by decide)) hx1).mp c3
      refine lv_iconst (v := iI 0) hx hb (dk_at dkX9_isAt_1 6 rfl) (by decide +kernel) ?_
      exact RET 0 _ _ _ _ _ ⟨rfl, (u_r_X9_isAt (Or.inr ⟨c1, ⟨z2, gz2.out, (Or.inl ⟨c3, rfl⟩)⟩⟩)), by omega⟩ hP hS (dk_at dkX9_isAt_1 7 rfl)
    · have c3 : ¬ z2 ≤ x1 := mt (i_le (rb rz2 (by decide) (by decide)) hx1).mpr c3
      refine lv_aload_n hx hb (dk_at dkX9_isAt_0 8 rfl) rfl (lv_at hl 0 rfl) ?_
      refine va_get (D := (dC, dI)) (ci := 9) (v := .ref (q (ta + 8))) (C := RX9) (T := TX9) (N := 16) hx hb hts hiX9 hown hK hP ta (wkT hta) rfl 2 (by decide) (hts _ (List.mem_cons_of_mem _ wkq_1_14)) (fun _ h9 => h9) rfl (dk_at dkX9_isAt_0 9 rfl) ?_
      refine lv_iload_n hx hb (dk_at dkX9_isAt_0 10 rfl) rfl (lv_at hl 1 rfl) ?_
      refine x_iald (Wf := WK cB cI cJ cZ cQ q) hx hb hK hP (ta + 8) 1 (wkTf hta) rfl (by omega) (by decide) (dk_at dkX9_isAt_0 11 rfl) (fun z4 hz4 => ?_)
      have rz4 : (-2147483648 : Int) ≤ z4 ∧ z4 ≤ 2147483647 := by rw [hz4]; exact irTf hta hI
      have gz4 := Hd.mk hz4
      refine lv_iload_n hx hb (dk_at dkX9_isAt_0 12 rfl) rfl (lv_at hl 2 rfl) ?_
      refine lv_icmp_eq (tgt := 34) hx hb (dk_at dkX9_isAt_0 13 rfl) (by decide) (fun c5 => ?_) (fun c5 => ?_)
      · have c5 : z4 = x2 := (i_eq rz4 hx2).mp c5
        refine lv_iconst (v := iI 1) hx hb (dk_at dkX9_isAt_1 4 rfl) (by decide +kernel) ?_
        refine lv_goto (tgt := 39) hx hb (dk_at dkX9_isAt_1 5 rfl) (by decide) ?_
        exact RET 1 _ _ _ _ _ ⟨rfl, (u_r_X9_isAt (Or.inr ⟨c1, ⟨z2, gz2.out, (Or.inr ⟨c3, ⟨z4, gz4.out, (Or.inl ⟨c5, rfl⟩)⟩⟩)⟩⟩)), by omega⟩ hP hS (dk_at dkX9_isAt_1 7 rfl)
      · have c5 : ¬ z4 = x2 := mt (i_eq rz4 hx2).mpr c5
        refine lv_aload_n hx hb (dk_at dkX9_isAt_0 14 rfl) rfl (lv_at hl 0 rfl) ?_
        refine va_get (D := (dC, dI)) (ci := 9) (v := .ref (q (ta + 9))) (C := RX9) (T := TX9) (N := 16) hx hb hts hiX9 hown hK hP ta (wkT hta) rfl 3 (by decide) (hts _ (List.mem_cons_of_mem _ wkq_1_15)) (fun _ h9 => h9) rfl (dk_at dkX9_isAt_0 15 rfl) ?_
        refine lv_iload_n hx hb (dk_at dkX9_isAt_1 0 rfl) rfl (lv_at hl 1 rfl) ?_
        refine x_iald (Wf := WK cB cI cJ cZ cQ q) hx hb hK hP (ta + 9) 1 (wkTs hta) rfl (by omega) (by decide) (dk_at dkX9_isAt_1 1 rfl) (fun z6 hz6 => ?_)
        have rz6 : (-2147483648 : Int) ≤ z6 ∧ z6 ≤ 2147483647 := by rw [hz6]; exact irTs hta hI
        have gz6 := Hd.mk hz6
        refine lv_iload_n hx hb (dk_at dkX9_isAt_1 2 rfl) rfl (lv_at hl 2 rfl) ?_
        refine lv_icmp_ne (tgt := 38) hx hb (dk_at dkX9_isAt_1 3 rfl) (by decide) (fun c7 => ?_) (fun c7 => ?_)
        · have c7 : ¬ z6 = x2 := mt (i_eq rz6 hx2).mpr c7
          refine lv_iconst (v := iI 0) hx hb (dk_at dkX9_isAt_1 6 rfl) (by decide +kernel) ?_
          exact RET 0 _ _ _ _ _ ⟨rfl, (u_r_X9_isAt (Or.inr ⟨c1, ⟨z2, gz2.out, (Or.inr ⟨c3, ⟨z4, gz4.out, (Or.inr ⟨c5, ⟨z6, gz6.out, (Or.inl ⟨c7, rfl⟩)⟩⟩)⟩⟩)⟩⟩)), by omega⟩ hP hS (dk_at dkX9_isAt_1 7 rfl)
        · have c7 : z6 = x2 := (i_eq rz6 hx2).mp c7
          refine lv_iconst (v := iI 1) hx hb (dk_at dkX9_isAt_1 4 rfl) (by decide +kernel) ?_
          refine lv_goto (tgt := 39) hx hb (dk_at dkX9_isAt_1 5 rfl) (by decide) ?_
          exact RET 1 _ _ _ _ _ ⟨rfl, (u_r_X9_isAt (Or.inr ⟨c1, ⟨z2, gz2.out, (Or.inr ⟨c3, ⟨z4, gz4.out, (Or.inr ⟨c5, ⟨z6, gz6.out, (Or.inr ⟨c7, rfl⟩)⟩⟩)⟩⟩)⟩⟩)), by omega⟩ hP hS (dk_at dkX9_isAt_1 7 rfl)

abbrev tr_d_X0_prepareDoors_3 (K2 : Int → St → Prop) (z11 : Int) (u : St) (A42 : St) : Prop := ((IK A42) ∧ (K2 (z11 + 1) A42))
def d_X0_prepareDoors_3 (K2 : Int → St → Prop) (z11 : Int) (u : St) (A42 : St) : Prop := tr_d_X0_prepareDoors_3 K2 z11 u A42
theorem u_d_X0_prepareDoors_3 {K2 : Int → St → Prop} {z11 : Int} {u : St} {A42 : St} (h : tr_d_X0_prepareDoors_3 K2 z11 u A42) : d_X0_prepareDoors_3 K2 z11 u A42 := h
abbrev tr_d_X0_prepareDoors_2 (K1 : Int → St → Prop) (ta : Nat) (z1 : Int) (u : St) (K2 : Int → St → Prop) (z11 : Int) (A13 : St) : Prop := ((IK A13) ∧ ((0 ≤ z11 ∧ z11 ≤ 2147483647) ∧ (∃ z26 : Int, z26 = A13 (ta + 1) (1 : Int).toNat ∧ (((z26 ≤ z11) ∧ (K1 (z1 + 1) A13)) ∨ ((¬ z26 ≤ z11) ∧ (∃ z28 : Int, q_X9_isBox ta z11 A13 z28 ∧ (((¬ z28 = 0) ∧ (d_X0_prepareDoors_3 K2 z11 u A13)) ∨ ((z28 = 0) ∧ (∃ z33 : Int, q_X9_isAt ta z11 z1 A13 z33 ∧ (((z33 = 0) ∧ (d_X0_prepareDoors_3 K2 z11 u A13)) ∨ ((¬ z33 = 0) ∧ (∃ z37 : Int, z37 = A13 15 (z1).toNat ∧ (∃ z38 : Int, z38 = oShl 1 z11 ∧ (∃ z39 : Int, z39 = oOr z37 z38 ∧ (∃ A40 : St, A40 = stA A13 15 (z1).toNat z39 ∧ (d_X0_prepareDoors_3 K2 z11 u A40))))))))))))))))
def d_X0_prepareDoors_2 (K1 : Int → St → Prop) (ta : Nat) (z1 : Int) (u : St) : Nat → Int → St → Prop
  | 0, _, _ => False
  | nn9 + 1, z11, A13 => tr_d_X0_prepareDoors_2 K1 ta z1 u (fun z11 A13 => d_X0_prepareDoors_2 K1 ta z1 u nn9 z11 A13) z11 A13
theorem u_d_X0_prepareDoors_2 {K1 : Int → St → Prop} {ta : Nat} {z1 : Int} {u : St} {nn9 : Nat} {z11 : Int} {A13 : St} (h : tr_d_X0_prepareDoors_2 K1 ta z1 u (fun z11 A13 => d_X0_prepareDoors_2 K1 ta z1 u nn9 z11 A13) z11 A13) : d_X0_prepareDoors_2 K1 ta z1 u (nn9 + 1) z11 A13 := h
abbrev tr_d_X0_prepareDoors_1 (ta : Nat) (u : St) (K1 : Int → St → Prop) (z1 : Int) (A3 : St) : Prop := ((IK A3) ∧ ((0 ≤ z1 ∧ z1 ≤ 2147483647) ∧ (((8 ≤ z1) ∧ (u = A3)) ∨ ((¬ 8 ≤ z1) ∧ (∃ A10 : St, A10 = stA A3 15 (z1).toNat 0 ∧ (∃ nn9 : Nat, d_X0_prepareDoors_2 K1 ta z1 u nn9 0 A10))))))
def d_X0_prepareDoors_1 (ta : Nat) (u : St) : Nat → Int → St → Prop
  | 0, _, _ => False
  | nn9 + 1, z1, A3 => tr_d_X0_prepareDoors_1 ta u (fun z1 A3 => d_X0_prepareDoors_1 ta u nn9 z1 A3) z1 A3
theorem u_d_X0_prepareDoors_1 {ta : Nat} {u : St} {nn9 : Nat} {z1 : Int} {A3 : St} (h : tr_d_X0_prepareDoors_1 ta u (fun z1 A3 => d_X0_prepareDoors_1 ta u nn9 z1 A3) z1 A3) : d_X0_prepareDoors_1 ta u (nn9 + 1) z1 A3 := h
abbrev tr_r_X0_prepareDoors (ta : Nat) (A : St) (u : St) : Prop := (∃ nn9 : Nat, d_X0_prepareDoors_1 ta u nn9 0 A)
def r_X0_prepareDoors (ta : Nat) (A : St) (u : St) : Prop := tr_r_X0_prepareDoors ta A u
theorem u_r_X0_prepareDoors {ta : Nat} {A : St} {u : St} (h : tr_r_X0_prepareDoors ta A u) : r_X0_prepareDoors ta A u := h
def q_X0_prepareDoors (ta : Nat) (A : St) (u : St) : Prop := r_X0_prepareDoors ta A u ∧ IK u ∧ fk [15] [] A u ∧ (True)
def ws_kc_X0_prepareDoors : List Cond := .code yX0_prepareDoors cX0_prepareDoors 4 none :: WY
set_option maxHeartbeats 4000000 in
set_option maxRecDepth 100000 in
theorem kc_X0_prepareDoors (l : Launch) (dC : Nat → ClassId) (dI : Nat → Nat → Nat) (cB cI cJ cZ cQ : ClassId) (aL aS : Nat) (q : Nat → Nat) (A : St) (ta : Nat) (hI : IK A) (hta : isT ta) : KMv l yX0_prepareDoors ws_kc_X0_prepareDoors ({ frames := 1, cells := 0, slots := 0, locals := 22 } : Room) aL aS (dC, dI) (tyA cB cI cJ cZ cQ) (WK cB cI cJ cZ cQ q) A [.ref (q 6), .ref (q ta)] (fun u => r_X0_prepareDoors ta A u ∧ IK u ∧ fk [15] [] A u ∧ (True)) := by
  refine k_metv (cc := cX0_prepareDoors) (maxL := 4) WK_adr (plainFor_of_name (by decide +kernel)) rfl (Nat.le_of_ble_eq_true rfl) (fun p e s m below meth c Q AS ls hx hb hml hown hts hK hDD hA0 hE RET H locs hP hS hl => ?_)
  have hown : s.vm.findClass RX0 = some m.cls := hown
  have hl : lv_has ls 4 [(0, .ref (q 6)), (1, .ref (q ta))] := hl
  have hiX0 : ∀ w ∈ u_ws RX0 TX0 17, w ∈ ws_kc_X0_prepareDoors := fun w h => List.mem_cons_of_mem _ (wy_layX0 w h)
  have hiX9 : ∀ w ∈ u_ws RX9 TX9 16, w ∈ ws_kc_X0_prepareDoors := fun w h => List.mem_cons_of_mem _ (wy_layX9 w h)
  refine lv_iconst (v := iI 0) hx hb (dk_at dkX0_prepareDoors_0 0 rfl) (by decide +kernel) ?_
  refine lv_istore_n (lv' := [(2, .int (iI 0)), (0, .ref (q 6)), (1, .ref (q ta))]) hx hb (dk_at dkX0_prepareDoors_0 1 rfl) rfl hl (by decide) rfl (fun ls hl => ?_)
  have L2_4 : ∀ (n7 : Nat) (z1 : Int) (A3 : St) (H : Heap) (locs : List Loc) (ls : Array Slot), (0 ≤ z1 ∧ z1 ≤ 2147483647) → (∀ (u : St), (∃ mm1 : Nat, (d_X0_prepareDoors_1 ta u mm1 z1 A3)) → r_X0_prepareDoors ta A u) → ((9 - z1).toNat = n7) → IK A3 → fk [15] [] A A3 → va_P (dC, dI) vwCl (WK cB cI cJ cZ cQ q A3) H → va_S AS s.heap H locs → lv_has ls 4 [(2, .int (iI z1)), (0, .ref (q 6)), (1, .ref (q ta))] → W p l e (headSpec ws_kc_X0_prepareDoors ({ frames := 1, cells := 0, slots := 0, locals := 22 } : Room)).room s m [.ref (q 6), .ref (q ta)].toArray below meth c H locs 0 0 Q (F0 m 2 ls []) := by
    intro n7
    induction n7 using Nat.strongRecOn with
    | ind n7 ih5 =>
      intro z1 A3 H locs ls f6 hk1 hn7 hI hj2 hP hS hl
      have gI8 : Hd (IK A3) := Hd.mk hI
      refine lv_iload_n hx hb (dk_at dkX0_prepareDoors_0 2 rfl) rfl (lv_at hl 0 rfl) ?_
      refine lv_bipush (v := iI 8) hx hb (dk_at dkX0_prepareDoors_0 3 rfl) (by decide +kernel) ?_
      refine lv_icmp_ge (tgt := 68) hx hb (dk_at dkX0_prepareDoors_0 4 rfl) (by decide) (fun c9 => ?_) (fun c9 => ?_)
      · have c9 : 8 ≤ z1 := (i_le ⟨by decide, by decide⟩ (rb f6 (by decide) (by decide))).mp c9
        exact RET _ _ _ _ _ ⟨hk1 _ ⟨0 + 1, (u_d_X0_prepareDoors_1 ⟨gI8.out, ⟨f6, (Or.inl ⟨c9, rfl⟩)⟩⟩)⟩, hI, fk.trans (fk.rf) hj2 rfl rfl, trivial⟩ hP hS (dk_at dkX0_prepareDoors_2 9 rfl)
      · have c9 : ¬ 8 ≤ z1 := mt (i_le ⟨by decide, by decide⟩ (rb f6 (by decide) (by decide))).mpr c9
        refine lv_aload_n hx hb (dk_at dkX0_prepareDoors_0 5 rfl) rfl (lv_at hl 1 rfl) ?_
        refine va_get (D := (dC, dI)) (ci := 0) (v := .ref (q 15)) (C := RX0) (T := TX0) (N := 17) hx hb hts hiX0 hown hK hP 6 (wkAL) rfl 4 (by decide) (hts _ (List.mem_cons_of_mem _ wkq_1_4)) (fun _ h9 => h9) rfl (dk_at dkX0_prepareDoors_0 6 rfl) ?_
        refine lv_iload_n hx hb (dk_at dkX0_prepareDoors_0 7 rfl) rfl (lv_at hl 0 rfl) ?_
        refine lv_iconst (v := iI 0) hx hb (dk_at dkX0_prepareDoors_0 8 rfl) (by decide +kernel) ?_
        refine k_iast (Wf := WK cB cI cJ cZ cQ q) hx hb hK hP hDD hS 15 1 (wkALd) rfl (by omega) (by decide) (dk_at dkX0_prepareDoors_0 9 rfl) (wsALd) (fun H locs A10 hA10 hP hS => ?_)
        have hI := isALd hA10 hI (show (-2147483648 : Int) ≤ 0 ∧ 0 ≤ 2147483647 from ⟨by decide, by decide⟩)
        refine lv_iconst (v := iI 0) hx hb (dk_at dkX0_prepareDoors_0 10 rfl) (by decide +kernel) ?_
        refine lv_istore_n (lv' := [(3, .int (iI 0)), (2, .int (iI z1)), (0, .ref (q 6)), (1, .ref (q ta))]) hx hb (dk_at dkX0_prepareDoors_0 11 rfl) rfl hl (by decide) rfl (fun ls hl => ?_)
        have L17_14 : ∀ (n21 : Nat) (z11 : Int) (A13 : St) (H : Heap) (locs : List Loc) (ls : Array Slot), (0 ≤ z11 ∧ z11 ≤ 2147483647) → (∀ (u : St), (∃ mm1 mm2 : Nat, (d_X0_prepareDoors_2 (fun z1' A3' => d_X0_prepareDoors_1 ta u mm1 z1' A3') ta z1 u mm2 z11 A13)) → r_X0_prepareDoors ta A u) → ((11 - z11).toNat = n21) → IK A13 → fk [15] [] A10 A13 → va_P (dC, dI) vwCl (WK cB cI cJ cZ cQ q A13) H → va_S AS s.heap H locs → lv_has ls 4 [(3, .int (iI z11)), (2, .int (iI z1)), (0, .ref (q 6)), (1, .ref (q ta))] → W p l e (headSpec ws_kc_X0_prepareDoors ({ frames := 1, cells := 0, slots := 0, locals := 22 } : Room)).room s m [.ref (q 6), .ref (q ta)].toArray below meth c H locs 0 0 Q (F0 m 17 ls []) := by
          intro n21
          induction n21 using Nat.strongRecOn with
          | ind n21 ih15 =>
            intro z11 A13 H locs ls f16 hk2 hn21 hI hj12 hP hS hl
            have gI22 : Hd (IK A13) := Hd.mk hI
            refine lv_iload_n hx hb (dk_at dkX0_prepareDoors_0 12 rfl) rfl (lv_at hl 0 rfl) ?_
            refine lv_aload_n hx hb (dk_at dkX0_prepareDoors_0 13 rfl) rfl (lv_at hl 3 rfl) ?_
            refine va_get (D := (dC, dI)) (ci := 9) (v := .ref (q (ta + 1))) (C := RX9) (T := TX9) (N := 16) hx hb hts hiX9 hown hK hP ta (wkT hta) rfl 0 (by decide) (hts _ (List.mem_cons_of_mem _ wkq_0_1)) (fun _ h9 => h9) rfl (dk_at dkX0_prepareDoors_0 14 rfl) ?_
            refine lv_iconst (v := iI 1) hx hb (dk_at dkX0_prepareDoors_0 15 rfl) (by decide +kernel) ?_
            have a25 : ∀ k, A3 (ta + 1) k = A (ta + 1) k := fun k => hj2 (ta + 1) k (isT.b2 (o := fun b => List.contains [15] (b + 1)) hta rfl rfl) (isT.b2 (o := fun b => fin2 [] (b + 1) k) hta rfl rfl)
            have a24 : ∀ k, A10 (ta + 1) k = A (ta + 1) k := fun k => (rd_ne hA10 (by rcases hta with h | h <;> omega) k).trans (a25 k)
            have a23 : ∀ k, A13 (ta + 1) k = A (ta + 1) k := fun k => (hj12 (ta + 1) k (isT.b2 (o := fun b => List.contains [15] (b + 1)) hta rfl rfl) (isT.b2 (o := fun b => fin2 [] (b + 1) k) hta rfl rfl)).trans (a24 k)
            refine x_iald (Wf := WK cB cI cJ cZ cQ q) hx hb hK hP (ta + 1) 1 (wkTc hta) rfl (by decide) (by decide) (dk_at dkX0_prepareDoors_1 0 rfl) (fun z26 hz26 => ?_)
            have rz26 : (0 : Int) ≤ z26 ∧ z26 ≤ 10 := by rw [hz26]; exact irTc1 hta hI
            have gz26 := Hd.mk hz26
            have hz26 : z26 = A (ta + 1) (1 : Int).toNat := hz26.trans (a23 _)
            refine lv_icmp_ge (tgt := 62) hx hb (dk_at dkX0_prepareDoors_1 1 rfl) (by decide) (fun c27 => ?_) (fun c27 => ?_)
            · have c27 : z26 ≤ z11 := (i_le (rb rz26 (by decide) (by decide)) (rb f16 (by decide) (by decide))).mp c27
              refine lv_iinc (v := iI (z1 + 1)) (lv' := [(2, .int (iI (z1 + 1))), (3, .int (iI z11)), (0, .ref (q 6)), (1, .ref (q ta))]) hx hb (dk_at dkX0_prepareDoors_2 7 rfl) hl (k := 1) rfl (i_inc (by omega)) (by decide) rfl (fun ls hl => ?_)
              refine lv_goto (tgt := 2) hx hb (dk_at dkX0_prepareDoors_2 8 rfl) (by decide) ?_
              exact ih5 _ (by omega) (z1 + 1) _ _ _ _ (by omega) (fun uq ⟨mm1, hq⟩ => hk2 _ ⟨mm1, 0 + 1, (u_d_X0_prepareDoors_2 ⟨gI22.out, ⟨f16, ⟨z26, gz26.out, (Or.inl ⟨c27, hq⟩)⟩⟩⟩)⟩) rfl hI (fk.trans (fk.da (fk.trans (fk.rf) hj2 rfl rfl) hA10 rfl) hj12 rfl rfl) hP hS (lv_sub hl [0, 2, 3] rfl)
            · have c27 : ¬ z26 ≤ z11 := mt (i_le (rb rz26 (by decide) (by decide)) (rb f16 (by decide) (by decide))).mpr c27
              refine lv_aload_n hx hb (dk_at dkX0_prepareDoors_1 2 rfl) rfl (lv_at hl 3 rfl) ?_
              refine lv_iload_n hx hb (dk_at dkX0_prepareDoors_1 3 rfl) rfl (lv_at hl 0 rfl) ?_
              refine k_calli (As := [.int (iI z11)]) (rest := []) ⟨hx, hb, hml, hown, hts⟩ hE (kc_X9_isBox l dC dI cB cI cJ cZ cQ aL aS q _ ta z11 hI hta (rb f16 (by decide) (by decide))) (cwV 1 hts (goodVk wkq_1_5 wkq_1_6 wkq_1_7 wkq_0_6 wkq_1_8) rfl rfl rfl (by decide +kernel) ⟨Nat.le_of_ble_eq_true rfl, Nat.le_of_ble_eq_true rfl⟩) hK hDD hA0 hP hS ta 9 (wkT hta) rfl rfl hl.1 (Nat.le_of_ble_eq_true rfl) (dk_at dkX0_prepareDoors_1 4 rfl) (fun z28 A29 H locs hw30 hP hS => ?_)
              obtain ⟨rfl, hw30⟩ := hw30
              have ghw30 : q_X9_isBox ta z11 A13 z28 := hw30
              have hw30 := hw30.2
              have rz28 : 0 ≤ z28 ∧ z28 ≤ 1 := hw30.1
              have hw30 := hw30.2
              have J56_32 : ∀ (A42 : St) (H : Heap) (locs : List Loc) (ls : Array Slot), (∀ (u : St), (∃ mm1 mm2 : Nat, (d_X0_prepareDoors_3 (fun z11' A13' => d_X0_prepareDoors_2 (fun z1' A3' => d_X0_prepareDoors_1 ta u mm1 z1' A3') ta z1 u mm2 z11' A13') z11 u A42)) → r_X0_prepareDoors ta A u) → IK A42 → fk [15] [] A13 A42 → va_P (dC, dI) vwCl (WK cB cI cJ cZ cQ q A42) H → va_S AS s.heap H locs → lv_has ls 4 [(3, .int (iI z11)), (2, .int (iI z1)), (0, .ref (q 6)), (1, .ref (q ta))] → W p l e (headSpec ws_kc_X0_prepareDoors ({ frames := 1, cells := 0, slots := 0, locals := 22 } : Room)).room s m [.ref (q 6), .ref (q ta)].toArray below meth c H locs 0 0 Q (F0 m 56 ls []) := by
                intro A42 H locs ls hk3 hI hj41 hP hS hl
                have gI43 : Hd (IK A42) := Hd.mk hI
                clear hw30
                refine lv_iinc (v := iI (z11 + 1)) (lv' := [(3, .int (iI (z11 + 1))), (2, .int (iI z1)), (0, .ref (q 6)), (1, .ref (q ta))]) hx hb (dk_at dkX0_prepareDoors_2 5 rfl) hl (k := 0) rfl (i_inc (by omega)) (by decide) rfl (fun ls hl => ?_)
                refine lv_goto (tgt := 17) hx hb (dk_at dkX0_prepareDoors_2 6 rfl) (by decide) ?_
                exact ih15 _ (by omega) (z11 + 1) _ _ _ _ (by omega) (fun uq ⟨mm1, mm2, hq⟩ => hk3 _ ⟨mm1, mm2, (u_d_X0_prepareDoors_3 ⟨gI43.out, hq⟩)⟩) rfl hI (fk.trans (fk.trans (fk.rf) hj12 rfl rfl) hj41 rfl rfl) hP hS (lv_sub hl [0, 1, 2, 3] rfl)
              refine lv_if_ne (tgt := 56) hx hb (dk_at dkX0_prepareDoors_1 5 rfl) (by decide) (fun c31 => ?_) (fun c31 => ?_)
              · have c31 : ¬ z28 = 0 := mt (i_eq0 (rb rz28 (by decide) (by decide))).mpr c31
                have hw30b := hw30 (by omega)
                clear hw30
                exact J56_32 _ _ _ _ (fun uq ⟨mm1, mm2, hq⟩ => hk2 _ ⟨mm1, mm2 + 1, (u_d_X0_prepareDoors_2 ⟨gI22.out, ⟨f16, ⟨z26, gz26.out, (Or.inr ⟨c27, ⟨z28, ghw30, (Or.inl ⟨c31, hq⟩)⟩⟩)⟩⟩⟩)⟩) hI (fk.rf) hP hS (lv_sub hl [0, 1, 2, 3] rfl)
              · have c31 : z28 = 0 := (i_eq0 (rb rz28 (by decide) (by decide))).mp c31
                clear hw30
                refine lv_aload_n hx hb (dk_at dkX0_prepareDoors_1 6 rfl) rfl (lv_at hl 3 rfl) ?_
                refine lv_iload_n hx hb (dk_at dkX0_prepareDoors_1 7 rfl) rfl (lv_at hl 0 rfl) ?_
                refine lv_iload_n hx hb (dk_at dkX0_prepareDoors_1 8 rfl) rfl (lv_at hl 1 rfl) ?_
                refine k_calli (As := [.int (iI z11), .int (iI z1)]) (rest := []) ⟨hx, hb, hml, hown, hts⟩ hE (kc_X9_isAt l dC dI cB cI cJ cZ cQ aL aS q _ ta z11 z1 hI hta (rb f16 (by decide) (by decide)) (rb f6 (by decide) (by decide))) (cwV 2 hts (goodVk wkq_1_10 wkq_1_11 wkq_1_12 wkq_0_6 wkq_1_13) rfl rfl rfl (by decide +kernel) ⟨Nat.le_of_ble_eq_true rfl, Nat.le_of_ble_eq_true rfl⟩) hK hDD hA0 hP hS ta 9 (wkT hta) rfl rfl hl.1 (Nat.le_of_ble_eq_true rfl) (dk_at dkX0_prepareDoors_1 9 rfl) (fun z33 A34 H locs hw35 hP hS => ?_)
                obtain ⟨rfl, hw35⟩ := hw35
                have ghw35 : q_X9_isAt ta z11 z1 A13 z33 := hw35
                have hw35 := hw35.2
                have rz33 : 0 ≤ z33 ∧ z33 ≤ 1 := hw35.1
                have hw35 := hw35.2
                refine lv_if_eq (tgt := 56) hx hb (dk_at dkX0_prepareDoors_1 10 rfl) (by decide) (fun c36 => ?_) (fun c36 => ?_)
                · have c36 : z33 = 0 := (i_eq0 (rb rz33 (by decide) (by decide))).mp c36
                  clear hw35
                  exact J56_32 _ _ _ _ (fun uq ⟨mm1, mm2, hq⟩ => hk2 _ ⟨mm1, mm2 + 1, (u_d_X0_prepareDoors_2 ⟨gI22.out, ⟨f16, ⟨z26, gz26.out, (Or.inr ⟨c27, ⟨z28, ghw30, (Or.inr ⟨c31, ⟨z33, ghw35, (Or.inl ⟨c36, hq⟩)⟩⟩)⟩⟩)⟩⟩⟩)⟩) hI (fk.rf) hP hS (lv_sub hl [0, 1, 2, 3] rfl)
                · have c36 : ¬ z33 = 0 := mt (i_eq0 (rb rz33 (by decide) (by decide))).mpr c36
                  have hw35b := hw35 (by omega)
                  clear hw35
                  refine lv_aload_n hx hb (dk_at dkX0_prepareDoors_1 11 rfl) rfl (lv_at hl 2 rfl) ?_
                  refine va_get (D := (dC, dI)) (ci := 0) (v := .ref (q 15)) (C := RX0) (T := TX0) (N := 17) hx hb hts hiX0 hown hK hP 6 (wkAL) rfl 4 (by decide) (hts _ (List.mem_cons_of_mem _ wkq_1_4)) (fun _ h9 => h9) rfl (dk_at dkX0_prepareDoors_1 12 rfl) ?_
                  refine lv_iload_n hx hb (dk_at dkX0_prepareDoors_1 13 rfl) rfl (lv_at hl 1 rfl) ?_
                  refine lv_dup2_11 hx hb (dk_at dkX0_prepareDoors_1 14 rfl) rfl rfl ?_
                  refine x_iald (Wf := WK cB cI cJ cZ cQ q) hx hb hK hP 15 1 (wkALd) rfl (by omega) (by decide) (dk_at dkX0_prepareDoors_1 15 rfl) (fun z37 hz37 => ?_)
                  have rz37 : (-2147483648 : Int) ≤ z37 ∧ z37 ≤ 2147483647 := by rw [hz37]; exact irALd hI
                  have gz37 := Hd.mk hz37
                  refine lv_iconst (v := iI 1) hx hb (dk_at dkX0_prepareDoors_2 0 rfl) (by decide +kernel) ?_
                  refine lv_iload_n hx hb (dk_at dkX0_prepareDoors_2 1 rfl) rfl (lv_at hl 0 rfl) ?_
                  refine lv_ishl hx hb (dk_at dkX0_prepareDoors_2 2 rfl) ?_
                  refine x_absE (fun z38 gz38 hz38 => ?_)
                  refine lv_ior hx hb (dk_at dkX0_prepareDoors_2 3 rfl) ?_
                  refine x_absE (fun z39 gz39 hz39 => ?_)
                  refine k_iast (Wf := WK cB cI cJ cZ cQ q) hx hb hK hP hDD hS 15 1 (wkALd) rfl (by omega) (by decide) (dk_at dkX0_prepareDoors_2 4 rfl) (wsALd) (fun H locs A40 hA40 hP hS => ?_)
                  have hI := isALd hA40 hI (show (-2147483648 : Int) ≤ z39 ∧ z39 ≤ 2147483647 from hz39)
                  exact J56_32 _ _ _ _ (fun uq ⟨mm1, mm2, hq⟩ => hk2 _ ⟨mm1, mm2 + 1, (u_d_X0_prepareDoors_2 ⟨gI22.out, ⟨f16, ⟨z26, gz26.out, (Or.inr ⟨c27, ⟨z28, ghw30, (Or.inr ⟨c31, ⟨z33, ghw35, (Or.inr ⟨c36, ⟨z37, gz37.out, ⟨z38, gz38.out, ⟨z39, gz39.out, ⟨A40, hA40, hq⟩⟩⟩⟩⟩)⟩⟩)⟩⟩)⟩⟩⟩)⟩) hI (fk.da (fk.rf) hA40 rfl) hP hS (lv_sub hl [0, 1, 2, 3] rfl)
        exact L17_14 _ 0 _ _ _ _ (by omega) (fun uq ⟨mm1, mm2, hq⟩ => hk1 _ ⟨mm1 + 1, (u_d_X0_prepareDoors_1 ⟨gI8.out, ⟨f6, (Or.inr ⟨c9, ⟨A10, hA10, ⟨mm2, hq⟩⟩⟩)⟩⟩)⟩) rfl hI (fk.rf) hP hS (lv_sub hl [0, 1, 2, 3] rfl)
  exact L2_4 _ 0 _ _ _ _ (by omega) (fun uq ⟨mm1, hq⟩ => (u_r_X0_prepareDoors ⟨mm1, hq⟩)) rfl hI (fk.rf) hP hS (lv_sub hl [0, 1, 2] rfl)
theorem dkX0_prepareBars_0 : dkq cX0_prepareBars [(0, .iconst 0, 1), (1, .istore 4, 2), (3, .iload 4, 2), (5, .bipush 88, 2), (7, .if_icmp .ge 17, 3), (10, .aload_n 0, 1), (11, .getfield 30, 3), (14, .iload 4, 2), (16, .iconst 0, 1), (17, .iastore, 1), (18, .iinc 4 1, 3), (21, .goto (-18), 3), (24, .iconst 0, 1), (25, .istore 4, 2), (27, .iload 4, 2), (29, .aload_n 1, 1)] = true := by decide +kernel
theorem dkX0_prepareBars_1 : dkq cX0_prepareBars [(30, .getfield 73, 3), (33, .bipush 7, 2), (35, .iaload, 1), (36, .if_icmp .ge 99, 3), (39, .aload_n 1, 1), (40, .getfield 162, 3), (43, .iload 4, 2), (45, .iaload, 1), (46, .istore 5, 2), (48, .iconst 0, 1), (49, .istore 6, 2), (51, .iload 6, 2), (53, .bipush 88, 2), (55, .if_icmp .ge 74, 3), (58, .iload 6, 2), (60, .bipush 11, 2)] = true := by decide +kernel
theorem dkX0_prepareBars_2 : dkq cX0_prepareBars [(62, .idiv, 1), (63, .istore 7, 2), (65, .aload_n 1, 1), (66, .iload 5, 2), (68, .iload 7, 2), (70, .invokevirtual 159, 3), (73, .ifCond .eq 50, 3), (76, .aload_n 1, 1), (77, .getfield 165, 3), (80, .aload_n 1, 1), (81, .getfield 169, 3), (84, .iload 4, 2), (86, .iaload, 1), (87, .aload_n 1, 1), (88, .getfield 172, 3), (91, .iload 4, 2)] = true := by decide +kernel
theorem dkX0_prepareBars_3 : dkq cX0_prepareBars [(93, .iaload, 1), (94, .iload_n 2, 1), (95, .iload 7, 2), (97, .iload_n 3, 1), (98, .iload 6, 2), (100, .bipush 11, 2), (102, .irem, 1), (103, .invokevirtual 175, 3), (106, .ifCond .eq 17, 3), (109, .aload_n 0, 1), (110, .getfield 30, 3), (113, .iload 6, 2), (115, .dup2, 1), (116, .iaload, 1), (117, .iconst 1, 1), (118, .iload 5, 2)] = true := by decide +kernel
theorem dkX0_prepareBars_4 : dkq cX0_prepareBars [(120, .ishl, 1), (121, .ior, 1), (122, .iastore, 1), (123, .iinc 6 1, 3), (126, .goto (-75), 3), (129, .iinc 4 1, 3), (132, .goto (-105), 3), (135, .return_, 1)] = true := by decide +kernel
theorem dkX0_clearSets_0 : dkq cX0_clearSets [(0, .iconst 0, 1), (1, .istore_n 1, 1), (2, .iload_n 1, 1), (3, .sipush 1201, 3), (6, .if_icmp .ge 34, 3), (9, .iload_n 1, 1), (10, .bipush 64, 2), (12, .imul, 1), (13, .aload_n 0, 1), (14, .getfield 49, 3), (17, .if_icmp .ge 23, 3), (20, .aload_n 0, 1), (21, .getfield 11, 3), (24, .iload_n 1, 1), (25, .lconst 0, 1), (26, .lastore, 1)] = true := by decide +kernel
theorem dkX0_clearSets_1 : dkq cX0_clearSets [(27, .aload_n 0, 1), (28, .getfield 39, 3), (31, .iload_n 1, 1), (32, .lconst 0, 1), (33, .lastore, 1), (34, .iinc 1 1, 3), (37, .goto (-35), 3), (40, .return_, 1)] = true := by decide +kernel
theorem dkX0_shutNow_0 : dkq cX0_shutNow [(0, .aload_n 0, 1), (1, .getfield 52, 3), (4, .istore_n 2, 1), (5, .iconst 0, 1), (6, .istore_n 3, 1), (7, .iload_n 3, 1), (8, .aload_n 1, 1), (9, .getfield 73, 3), (12, .iconst 2, 1), (13, .iaload, 1), (14, .if_icmp .ge 59, 3), (17, .iload_n 3, 1), (18, .iconst 4, 1), (19, .if_icmp .ge 54, 3), (22, .aload_n 0, 1), (23, .getfield 20, 3)] = true := by decide +kernel
theorem dkX0_shutNow_1 : dkq cX0_shutNow [(26, .iload_n 3, 1), (27, .iaload, 1), (28, .ifCond .le 39, 3), (31, .aload_n 0, 1), (32, .getfield 24, 3), (35, .iload_n 3, 1), (36, .iaload, 1), (37, .ifCond .lt 30, 3), (40, .aload_n 0, 1), (41, .getfield 24, 3), (44, .iload_n 3, 1), (45, .iaload, 1), (46, .bipush 6, 2), (48, .if_icmp .gt 19, 3), (51, .iload_n 2, 1), (52, .aload_n 0, 1)] = true := by decide +kernel
theorem dkX0_shutNow_2 : dkq cX0_shutNow [(53, .getfield 17, 3), (56, .iload_n 3, 1), (57, .aaload, 1), (58, .aload_n 0, 1), (59, .getfield 24, 3), (62, .iload_n 3, 1), (63, .iaload, 1), (64, .iaload, 1), (65, .ior, 1), (66, .istore_n 2, 1), (67, .iinc 3 1, 3), (70, .goto (-63), 3), (73, .iload_n 2, 1), (74, .ireturn, 1)] = true := by decide +kernel
theorem dkX0_hadAt_0 : dkq cX0_hadAt [(0, .iconst 0, 1), (1, .istore 4, 2), (3, .iconst 0, 1), (4, .istore 5, 2), (6, .iload 5, 2), (8, .aload_n 0, 1), (9, .getfield 42, 3), (12, .if_icmp .ge 74, 3), (15, .iload 5, 2), (17, .iconst 2, 1), (18, .if_icmp .ge 68, 3), (21, .aload_n 0, 1), (22, .getfield 33, 3), (25, .iload 5, 2), (27, .iaload, 1), (28, .bipush 20, 2)] = true := by decide +kernel
theorem dkX0_hadAt_1 : dkq cX0_hadAt [(30, .isub, 1), (31, .istore 6, 2), (33, .aload_n 0, 1), (34, .getfield 33, 3), (37, .iload 5, 2), (39, .iaload, 1), (40, .bipush 10, 2), (42, .iload_n 2, 1), (43, .iadd, 1), (44, .if_icmp .eq 27, 3), (47, .iload 6, 2), (49, .ifCond .lt 31, 3), (52, .aload_n 1, 1), (53, .iload 6, 2), (55, .iload_n 2, 1), (56, .invokevirtual 159, 3)] = true := by decide +kernel
theorem dkX0_hadAt_2 : dkq cX0_hadAt [(59, .ifCond .eq 21, 3), (62, .iload_n 3, 1), (63, .iload 6, 2), (65, .ishr, 1), (66, .iconst 1, 1), (67, .iand, 1), (68, .ifCond .ne 12, 3), (71, .iload 4, 2), (73, .iconst 1, 1), (74, .iload 5, 2), (76, .ishl, 1), (77, .ior, 1), (78, .istore 4, 2), (80, .iinc 5 1, 3), (83, .goto (-77), 3), (86, .iload 4, 2)] = true := by decide +kernel
theorem dkX0_hadAt_3 : dkq cX0_hadAt [(88, .ireturn, 1)] = true := by decide +kernel
theorem dkX8_holds_0 : dkq cX8_holds [(0, .iconst 0, 1), (1, .istore 7, 2), (3, .iload_n 1, 1), (4, .iconst 0, 1), (5, .invokestatic 22, 3), (8, .istore 8, 2), (10, .iload 8, 2), (12, .iload_n 2, 1), (13, .if_icmp .ge 155, 3), (16, .iload 8, 2), (18, .aload_n 0, 1), (19, .getfield 18, 3), (22, .if_icmp .ge 146, 3), (25, .iload 8, 2), (27, .sipush 1600, 3), (30, .if_icmp .ge 138, 3)] = true := by decide +kernel
theorem dkX8_holds_1 : dkq cX8_holds [(33, .aload_n 0, 1), (34, .getfield 9, 3), (37, .iload 8, 2), (39, .iaload, 1), (40, .istore 9, 2), (42, .iload 9, 2), (44, .bipush (-5), 2), (46, .if_icmp .lt 37, 3), (49, .iload 7, 2), (51, .bipush 64, 2), (53, .if_icmp .lt 5, 3), (56, .iconst 0, 1), (57, .ireturn, 1), (58, .aload_n 0, 1), (59, .getfield 15, 3), (62, .iload 7, 2)] = true := by decide +kernel
theorem dkX8_holds_2 : dkq cX8_holds [(64, .iload 9, 2), (66, .iload_n 3, 1), (67, .iload 4, 2), (69, .iload 5, 2), (71, .iload 6, 2), (73, .invokestatic 28, 3), (76, .iastore, 1), (77, .iinc 7 1, 3), (80, .goto 82, 3), (83, .iload 9, 2), (85, .bipush (-6), 2), (87, .if_icmp .ne 34, 3), (90, .iload 7, 2), (92, .iconst 1, 1), (93, .if_icmp .ge 5, 3), (96, .iconst 0, 1)] = true := by decide +kernel
theorem dkX8_holds_3 : dkq cX8_holds [(97, .ireturn, 1), (98, .aload_n 0, 1), (99, .getfield 15, 3), (102, .iload 7, 2), (104, .iconst 1, 1), (105, .isub, 1), (106, .iconst 1, 1), (107, .aload_n 0, 1), (108, .getfield 15, 3), (111, .iload 7, 2), (113, .iconst 1, 1), (114, .isub, 1), (115, .iaload, 1), (116, .isub, 1), (117, .iastore, 1), (118, .goto 44, 3)] = true := by decide +kernel
theorem dkX8_holds_4 : dkq cX8_holds [(121, .iload 7, 2), (123, .iconst 2, 1), (124, .if_icmp .ge 5, 3), (127, .iconst 0, 1), (128, .ireturn, 1), (129, .iinc 7 (-1), 3), (132, .aload_n 0, 1), (133, .getfield 15, 3), (136, .iload 7, 2), (138, .iconst 1, 1), (139, .isub, 1), (140, .iload 9, 2), (142, .aload_n 0, 1), (143, .getfield 15, 3), (146, .iload 7, 2), (148, .iconst 1, 1)] = true := by decide +kernel
theorem dkX8_holds_5 : dkq cX8_holds [(149, .isub, 1), (150, .iaload, 1), (151, .aload_n 0, 1), (152, .getfield 15, 3), (155, .iload 7, 2), (157, .iaload, 1), (158, .invokestatic 32, 3), (161, .iastore, 1), (162, .iinc 8 1, 3), (165, .goto (-155), 3), (168, .iload 7, 2), (170, .iconst 1, 1), (171, .if_icmp .ne 17, 3), (174, .aload_n 0, 1), (175, .getfield 15, 3), (178, .iconst 0, 1)] = true := by decide +kernel
theorem dkX8_holds_6 : dkq cX8_holds [(179, .iaload, 1), (180, .iconst 1, 1), (181, .if_icmp .ne 7, 3), (184, .iconst 1, 1), (185, .goto 4, 3), (188, .iconst 0, 1), (189, .ireturn, 1)] = true := by decide +kernel
theorem dkX8_value_0 : dkq cX8_value [(0, .iload_n 0, 1), (1, .tableswitch 46 (-5) (-1) #[44, 41, 39, 37, 35], 35), (36, .iload_n 1, 1), (37, .ireturn, 1), (38, .iload_n 2, 1), (39, .ireturn, 1), (40, .iload_n 3, 1), (41, .ireturn, 1), (42, .iload 4, 2), (44, .ireturn, 1), (45, .iconst 1, 1), (46, .ireturn, 1), (47, .iload_n 0, 1), (48, .ireturn, 1)] = true := by decide +kernel
theorem dkX8_joined_0 : dkq cX8_joined [(0, .iload_n 0, 1), (1, .tableswitch 161 (-17) (-7) #[155, 141, 127, 118, 109, 100, 89, 78, 67, 63, 59], 59), (60, .iload_n 1, 1), (61, .iload_n 2, 1), (62, .ior, 1), (63, .ireturn, 1), (64, .iload_n 1, 1), (65, .iload_n 2, 1), (66, .iand, 1), (67, .ireturn, 1), (68, .iload_n 1, 1), (69, .iload_n 2, 1), (70, .if_icmp .ge 7, 3), (73, .iconst 1, 1), (74, .goto 4, 3), (77, .iconst 0, 1)] = true := by decide +kernel
theorem dkX8_joined_1 : dkq cX8_joined [(78, .ireturn, 1), (79, .iload_n 1, 1), (80, .iload_n 2, 1), (81, .if_icmp .le 7, 3), (84, .iconst 1, 1), (85, .goto 4, 3), (88, .iconst 0, 1), (89, .ireturn, 1), (90, .iload_n 1, 1), (91, .iload_n 2, 1), (92, .if_icmp .ne 7, 3), (95, .iconst 1, 1), (96, .goto 4, 3), (99, .iconst 0, 1), (100, .ireturn, 1), (101, .iload_n 1, 1)] = true := by decide +kernel
theorem dkX8_joined_2 : dkq cX8_joined [(102, .i2l, 1), (103, .iload_n 2, 1), (104, .i2l, 1), (105, .ladd, 1), (106, .invokestatic 36, 3), (109, .ireturn, 1), (110, .iload_n 1, 1), (111, .i2l, 1), (112, .iload_n 2, 1), (113, .i2l, 1), (114, .lsub, 1), (115, .invokestatic 36, 3), (118, .ireturn, 1), (119, .iload_n 1, 1), (120, .i2l, 1), (121, .iload_n 2, 1)] = true := by decide +kernel
theorem dkX8_joined_3 : dkq cX8_joined [(122, .i2l, 1), (123, .lmul, 1), (124, .invokestatic 36, 3), (127, .ireturn, 1), (128, .iload_n 2, 1), (129, .ifCond .ne 7, 3), (132, .iconst 0, 1), (133, .goto 8, 3), (136, .iload_n 1, 1), (137, .iload_n 2, 1), (138, .invokestatic 40, 3), (141, .ireturn, 1), (142, .iload_n 2, 1), (143, .ifCond .ne 7, 3), (146, .iconst 0, 1), (147, .goto 8, 3)] = true := by decide +kernel
theorem dkX8_joined_4 : dkq cX8_joined [(150, .iload_n 1, 1), (151, .iload_n 2, 1), (152, .invokestatic 43, 3), (155, .ireturn, 1), (156, .iload_n 1, 1), (157, .iload_n 2, 1), (158, .invokestatic 46, 3), (161, .ireturn, 1), (162, .iload_n 1, 1), (163, .iload_n 2, 1), (164, .invokestatic 22, 3), (167, .ireturn, 1)] = true := by decide +kernel
theorem dkX8_bounded_0 : dkq cX8_bounded [(0, .lload_n 0, 1), (1, .ldc2_w 49, 3), (4, .lcmp, 1), (5, .ifCond .le 6, 3), (8, .ldc 51, 2), (10, .ireturn, 1), (11, .lload_n 0, 1), (12, .ldc2_w 52, 3), (15, .lcmp, 1), (16, .ifCond .ge 8, 3), (19, .ldc 54, 2), (21, .goto 5, 3), (24, .lload_n 0, 1), (25, .l2i, 1), (26, .ireturn, 1)] = true := by decide +kernel
theorem dkJ6_bitCount_0f7a4_0 : dkq cJ6_bitCount_0f7a4 [(0, .iload_n 0, 1), (1, .iload_n 0, 1), (2, .iconst 1, 1), (3, .iushr, 1), (4, .ldc_w 265, 3), (7, .iand, 1), (8, .isub, 1), (9, .istore_n 0, 1), (10, .iload_n 0, 1), (11, .ldc_w 266, 3), (14, .iand, 1), (15, .iload_n 0, 1), (16, .iconst 2, 1), (17, .iushr, 1), (18, .ldc_w 266, 3), (21, .iand, 1)] = true := by decide +kernel
theorem dkJ6_bitCount_0f7a4_1 : dkq cJ6_bitCount_0f7a4 [(22, .iadd, 1), (23, .istore_n 0, 1), (24, .iload_n 0, 1), (25, .iload_n 0, 1), (26, .iconst 4, 1), (27, .iushr, 1), (28, .iadd, 1), (29, .ldc_w 267, 3), (32, .iand, 1), (33, .istore_n 0, 1), (34, .iload_n 0, 1), (35, .iload_n 0, 1), (36, .bipush 8, 2), (38, .iushr, 1), (39, .iadd, 1), (40, .istore_n 0, 1)] = true := by decide +kernel
theorem dkJ6_bitCount_0f7a4_2 : dkq cJ6_bitCount_0f7a4 [(41, .iload_n 0, 1), (42, .iload_n 0, 1), (43, .bipush 16, 2), (45, .iushr, 1), (46, .iadd, 1), (47, .istore_n 0, 1), (48, .iload_n 0, 1), (49, .bipush 63, 2), (51, .iand, 1), (52, .ireturn, 1)] = true := by decide +kernel
theorem dkJ9_floorDiv_7cf53_0 : dkq cJ9_floorDiv_7cf53 [(0, .iload_n 0, 1), (1, .iload_n 1, 1), (2, .idiv, 1), (3, .istore_n 2, 1), (4, .iload_n 0, 1), (5, .iload_n 1, 1), (6, .ixor, 1), (7, .ifCond .ge 14, 3), (10, .iload_n 2, 1), (11, .iload_n 1, 1), (12, .imul, 1), (13, .iload_n 0, 1), (14, .if_icmp .eq 7, 3), (17, .iload_n 2, 1), (18, .iconst 1, 1), (19, .isub, 1)] = true := by decide +kernel
theorem dkJ9_floorDiv_7cf53_1 : dkq cJ9_floorDiv_7cf53 [(20, .ireturn, 1), (21, .iload_n 2, 1), (22, .ireturn, 1)] = true := by decide +kernel
theorem dkJ9_floorMod_7cf53_0 : dkq cJ9_floorMod_7cf53 [(0, .iload_n 0, 1), (1, .iload_n 1, 1), (2, .irem, 1), (3, .istore_n 2, 1), (4, .iload_n 0, 1), (5, .iload_n 1, 1), (6, .ixor, 1), (7, .ifCond .ge 11, 3), (10, .iload_n 2, 1), (11, .ifCond .eq 7, 3), (14, .iload_n 2, 1), (15, .iload_n 1, 1), (16, .iadd, 1), (17, .ireturn, 1), (18, .iload_n 2, 1), (19, .ireturn, 1)] = true := by decide +kernel
