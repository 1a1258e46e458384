abbrev tr_r_J6_bitCount_0f7a4 (x1 : Int) (A : St) (z : Int) : Prop := (∃ z1 : Int, z1 = oUshr x1 1 ∧ (∃ z2 : Int, z2 = oAnd z1 1431655765 ∧ (∃ z3 : Int, z3 = oWrap (x1 - z2) ∧ (∃ z4 : Int, z4 = oAnd z3 858993459 ∧ (∃ z5 : Int, z5 = oUshr z3 2 ∧ (∃ z6 : Int, z6 = oAnd z5 858993459 ∧ (∃ z7 : Int, z7 = oUshr (z4 + z6) 4 ∧ (∃ z8 : Int, z8 = oWrap (z4 + z6 + z7) ∧ (∃ z9 : Int, z9 = oAnd z8 252645135 ∧ (∃ z10 : Int, z10 = oUshr z9 8 ∧ (∃ z11 : Int, z11 = oWrap (z9 + z10) ∧ (∃ z12 : Int, z12 = oUshr z11 16 ∧ (∃ z13 : Int, z13 = oWrap (z11 + z12) ∧ (∃ z14 : Int, z14 = oAnd z13 63 ∧ (z = z14)))))))))))))))
def r_J6_bitCount_0f7a4 (x1 : Int) (A : St) (z : Int) : Prop := tr_r_J6_bitCount_0f7a4 x1 A z
theorem u_r_J6_bitCount_0f7a4 {x1 : Int} {A : St} {z : Int} (h : tr_r_J6_bitCount_0f7a4 x1 A z) : r_J6_bitCount_0f7a4 x1 A z := h
def q_J6_bitCount_0f7a4 (x1 : Int) (A : St) (z : Int) : Prop := r_J6_bitCount_0f7a4 x1 A z ∧ (0 ≤ z ∧ z ≤ 63)
def ws_kc_J6_bitCount_0f7a4 : List Cond := .code yJ6_bitCount_0f7a4 cJ6_bitCount_0f7a4 1 (some .int) :: WY
set_option maxHeartbeats 4000000 in
set_option maxRecDepth 100000 in
theorem kc_J6_bitCount_0f7a4 (l : Launch) (dC : Nat → ClassId) (dI : Nat → Nat → Nat) (cB cI cJ cZ cQ : ClassId) (aL aS : Nat) (q : Nat → Nat) (A : St) (x1 : Int) (hI : IK A) (hx1 : (-2147483648 : Int) ≤ x1 ∧ x1 ≤ 2147483647) : KMi l yJ6_bitCount_0f7a4 ws_kc_J6_bitCount_0f7a4 ({ frames := 0, cells := 0, slots := 0, locals := 0 } : Room) aL aS (dC, dI) (tyA cB cI cJ cZ cQ) (WK cB cI cJ cZ cQ q) A [.int (iI x1)] (fun z u => A = u ∧ r_J6_bitCount_0f7a4 x1 A z ∧ (0 ≤ z ∧ z ≤ 63)) := by
  refine k_meti (cc := cJ6_bitCount_0f7a4) (maxL := 1) WK_adr (plainFor_of_name (by decide +kernel)) rfl (Nat.le_of_ble_eq_true rfl) (fun p e s m below meth c Q AS ls hx hb hml hown hts hK hDD hA0 hE RET H locs hP hS hl => ?_)
  have hown : s.vm.findClass RJ6 = some m.cls := hown
  have hl : lv_has ls 1 [(0, .int (iI x1))] := hl
  refine lv_iload_n hx hb (dk_at dkJ6_bitCount_0f7a4_0 0 rfl) rfl (lv_at hl 0 rfl) ?_
  refine lv_iload_n hx hb (dk_at dkJ6_bitCount_0f7a4_0 1 rfl) rfl (lv_at hl 0 rfl) ?_
  refine lv_iconst (v := iI 1) hx hb (dk_at dkJ6_bitCount_0f7a4_0 2 rfl) (by decide +kernel) ?_
  refine lv_iushr hx hb (dk_at dkJ6_bitCount_0f7a4_0 3 rfl) rfl ?_
  refine x_absE (fun z1 gz1 hz1 => ?_)
  refine lv_ldcw (v := 1431655765) hx hb hown (hts _ (List.mem_cons_of_mem _ wkq_1_20)) (dk_at dkJ6_bitCount_0f7a4_0 4 rfl) ?_
  refine tp_i (y := iI 1431655765) (by decide +kernel) ?_
  refine lv_iand hx hb (dk_at dkJ6_bitCount_0f7a4_0 5 rfl) ?_
  refine x_andE (b := 1431655765) (by omega) (fun z2 gz2 hz2 => ?_)
  refine x_subv (v := x1 - z2) hx hb (dk_at dkJ6_bitCount_0f7a4_0 6 rfl) (by omega) ?_
  refine x_absE (fun z3 gz3 hz3 => ?_)
  refine lv_istore_n (lv' := [(0, .int (iI z3))]) hx hb (dk_at dkJ6_bitCount_0f7a4_0 7 rfl) rfl hl (by decide) rfl (fun ls hl => ?_)
  refine lv_iload_n hx hb (dk_at dkJ6_bitCount_0f7a4_0 8 rfl) rfl (lv_at hl 0 rfl) ?_
  refine lv_ldcw (v := 858993459) hx hb hown (hts _ (List.mem_cons_of_mem _ wkq_1_21)) (dk_at dkJ6_bitCount_0f7a4_0 9 rfl) ?_
  refine tp_i (y := iI 858993459) (by decide +kernel) ?_
  refine lv_iand hx hb (dk_at dkJ6_bitCount_0f7a4_0 10 rfl) ?_
  refine x_andE (b := 858993459) (by omega) (fun z4 gz4 hz4 => ?_)
  refine lv_iload_n hx hb (dk_at dkJ6_bitCount_0f7a4_0 11 rfl) rfl (lv_at hl 0 rfl) ?_
  refine lv_iconst (v := iI 2) hx hb (dk_at dkJ6_bitCount_0f7a4_0 12 rfl) (by decide +kernel) ?_
  refine lv_iushr hx hb (dk_at dkJ6_bitCount_0f7a4_0 13 rfl) rfl ?_
  refine x_absE (fun z5 gz5 hz5 => ?_)
  refine lv_ldcw (v := 858993459) hx hb hown (hts _ (List.mem_cons_of_mem _ wkq_1_21)) (dk_at dkJ6_bitCount_0f7a4_0 14 rfl) ?_
  refine tp_i (y := iI 858993459) (by decide +kernel) ?_
  refine lv_iand hx hb (dk_at dkJ6_bitCount_0f7a4_0 15 rfl) ?_
  refine x_andE (b := 858993459) (by omega) (fun z6 gz6 hz6 => ?_)
  refine x_addv (v := z4 + z6) hx hb (dk_at dkJ6_bitCount_0f7a4_1 0 rfl) (by omega) ?_
  refine lv_istore_n (lv' := [(0, .int (iI (z4 + z6)))]) hx hb (dk_at dkJ6_bitCount_0f7a4_1 1 rfl) rfl hl (by decide) rfl (fun ls hl => ?_)
  refine lv_iload_n hx hb (dk_at dkJ6_bitCount_0f7a4_1 2 rfl) rfl (lv_at hl 0 rfl) ?_
  refine lv_iload_n hx hb (dk_at dkJ6_bitCount_0f7a4_1 3 rfl) rfl (lv_at hl 0 rfl) ?_
  refine lv_iconst (v := iI 4) hx hb (dk_at dkJ6_bitCount_0f7a4_1 4 rfl) (by decide +kernel) ?_
  refine lv_iushr hx hb (dk_at dkJ6_bitCount_0f7a4_1 5 rfl) rfl ?_
  refine x_absE (fun z7 gz7 hz7 => ?_)
  refine x_addv (v := z4 + z6 + z7) hx hb (dk_at dkJ6_bitCount_0f7a4_1 6 rfl) (by omega) ?_
  refine x_absE (fun z8 gz8 hz8 => ?_)
  refine lv_ldcw (v := 252645135) hx hb hown (hts _ (List.mem_cons_of_mem _ wkq_1_22)) (dk_at dkJ6_bitCount_0f7a4_1 7 rfl) ?_
  refine tp_i (y := iI 252645135) (by decide +kernel) ?_
  refine lv_iand hx hb (dk_at dkJ6_bitCount_0f7a4_1 8 rfl) ?_
  refine x_andE (b := 252645135) (by omega) (fun z9 gz9 hz9 => ?_)
  refine lv_istore_n (lv' := [(0, .int (iI z9))]) hx hb (dk_at dkJ6_bitCount_0f7a4_1 9 rfl) rfl hl (by decide) rfl (fun ls hl => ?_)
  refine lv_iload_n hx hb (dk_at dkJ6_bitCount_0f7a4_1 10 rfl) rfl (lv_at hl 0 rfl) ?_
  refine lv_iload_n hx hb (dk_at dkJ6_bitCount_0f7a4_1 11 rfl) rfl (lv_at hl 0 rfl) ?_
  refine lv_bipush (v := iI 8) hx hb (dk_at dkJ6_bitCount_0f7a4_1 12 rfl) (by decide +kernel) ?_
  refine lv_iushr hx hb (dk_at dkJ6_bitCount_0f7a4_1 13 rfl) rfl ?_
  refine x_absE (fun z10 gz10 hz10 => ?_)
  refine x_addv (v := z9 + z10) hx hb (dk_at dkJ6_bitCount_0f7a4_1 14 rfl) (by omega) ?_
  refine x_absE (fun z11 gz11 hz11 => ?_)
  refine lv_istore_n (lv' := [(0, .int (iI z11))]) hx hb (dk_at dkJ6_bitCount_0f7a4_1 15 rfl) rfl hl (by decide) rfl (fun ls hl => ?_)
  refine lv_iload_n hx hb (dk_at dkJ6_bitCount_0f7a4_2 0 rfl) rfl (lv_at hl 0 rfl) ?_
  refine lv_iload_n hx hb (dk_at dkJ6_bitCount_0f7a4_2 1 rfl) rfl (lv_at hl 0 rfl) ?_
  refine lv_bipush (v := iI 16) hx hb (dk_at dkJ6_bitCount_0f7a4_2 2 rfl) (by decide +kernel) ?_
  refine lv_iushr hx hb (dk_at dkJ6_bitCount_0f7a4_2 3 rfl) rfl ?_
  refine x_absE (fun z12 gz12 hz12 => ?_)
  refine x_addv (v := z11 + z12) hx hb (dk_at dkJ6_bitCount_0f7a4_2 4 rfl) (by omega) ?_
  refine x_absE (fun z13 gz13 hz13 => ?_)
  refine lv_istore_n (lv' := [(0, .int (iI z13))]) hx hb (dk_at dkJ6_bitCount_0f7a4_2 5 rfl) rfl hl (by decide) rfl (fun ls hl => ?_)
  refine lv_iload_n hx hb (dk_at dkJ6_bitCount_0f7a4_2 6 rfl) rfl (lv_at hl 0 rfl) ?_
  refine lv_bipush (v := iI 63) hx hb (dk_at dkJ6_bitCount_0f7a4_2 7 rfl) (by decide +kernel) ?_
  refine lv_iand hx hb (dk_at dkJ6_bitCount_0f7a4_2 8 rfl) ?_
  refine x_andE (b := 63) (by omega) (fun z14 gz14 hz14 => ?_)
  exact RET z14 _ _ _ _ _ ⟨rfl, (u_r_J6_bitCount_0f7a4 ⟨z1, gz1.out, ⟨z2, gz2.out, ⟨z3, gz3.out, ⟨z4, gz4.out, ⟨z5, gz5.out, ⟨z6, gz6.out, ⟨z7, gz7.out, ⟨z8, gz8.out, ⟨z9, gz9.out, ⟨z10, gz10.out, ⟨z11, gz11.out, ⟨z12, gz12.out, ⟨z13, gz13.out, ⟨z14, gz14.out, rfl⟩⟩⟩⟩⟩⟩⟩⟩⟩⟩⟩⟩⟩⟩), by omega⟩ hP hS (dk_at dkJ6_bitCount_0f7a4_2 9 rfl)

abbrev tr_r_X8_value (x1 : Int) (x2 : Int) (x3 : Int) (x4 : Int) (x5 : Int) (A : St) (z : Int) : Prop := (((x1 < -5 ∨ -1 < x1) ∧ (z = x1)) ∨ (x1 = -5 ∧ (z = 1)) ∨ (x1 = -4 ∧ (z = x5)) ∨ (x1 = -3 ∧ (z = x4)) ∨ (x1 = -2 ∧ (z = x3)) ∨ (x1 = -1 ∧ (z = x2)))
def r_X8_value (x1 : Int) (x2 : Int) (x3 : Int) (x4 : Int) (x5 : Int) (A : St) (z : Int) : Prop := tr_r_X8_value x1 x2 x3 x4 x5 A z
theorem u_r_X8_value {x1 : Int} {x2 : Int} {x3 : Int} {x4 : Int} {x5 : Int} {A : St} {z : Int} (h : tr_r_X8_value x1 x2 x3 x4 x5 A z) : r_X8_value x1 x2 x3 x4 x5 A z := h
def q_X8_value (x1 : Int) (x2 : Int) (x3 : Int) (x4 : Int) (x5 : Int) (A : St) (z : Int) : Prop := r_X8_value x1 x2 x3 x4 x5 A z ∧ (-2147483648 ≤ z ∧ z ≤ 2147483647)
def ws_kc_X8_value : List Cond := .code yX8_value cX8_value 5 (some .int) :: WY
set_option maxHeartbeats 4000000 in
set_option maxRecDepth 100000 in
theorem kc_X8_value (l : Launch) (dC : Nat → ClassId) (dI : Nat → Nat → Nat) (cB cI cJ cZ cQ : ClassId) (aL aS : Nat) (q : Nat → Nat) (A : St) (x1 x2 x3 x4 x5 : Int) (hI : IK A) (hx1 : (-2147483648 : Int) ≤ x1 ∧ x1 ≤ 2147483647) (hx2 : (-2147483648 : Int) ≤ x2 ∧ x2 ≤ 2147483647) (hx3 : (-2147483648 : Int) ≤ x3 ∧ x3 ≤ 2147483647) (hx4 : (-2147483648 : Int) ≤ x4 ∧ x4 ≤ 2147483647) (hx5 : (-2147483648 : Int) ≤ x5 ∧ x5 ≤ 2147483647) : KMi l yX8_value ws_kc_X8_value ({ frames := 0, cells := 0, slots := 0, locals := 0 } : Room) aL aS (dC, dI) (tyA cB cI cJ cZ cQ) (WK cB cI cJ cZ cQ q) A [.int (iI x1), .int (iI x2), .int (iI x3), .int (iI x4), .int (iI x5)] (fun z u => A = u ∧ r_X8_value x1 x2 x3 x4 x5 A z ∧ (-2147483648 ≤ z ∧ z ≤ 2147483647)) := by
  refine k_meti (cc := cX8_value) (maxL := 5) WK_adr (plainFor_of_name (by decide +kernel)) rfl (Nat.le_of_ble_eq_true rfl) (fun p e s m below meth c Q AS ls hx hb hml hown hts hK hDD hA0 hE RET H locs hP hS hl => ?_)
  have hown : s.vm.findClass RX8 = some m.cls := hown
  have hl : lv_has ls 5 [(0, .int (iI x1)), (1, .int (iI x2)), (2, .int (iI x3)), (3, .int (iI x4)), (4, .int (iI x5))] := hl
  refine lv_iload_n hx hb (dk_at dkX8_value_0 0 rfl) rfl (lv_at hl 0 rfl) ?_
  rcases (show (x1 < -5 ∨ -1 < x1) ∨ x1 = -5 ∨ x1 = -4 ∨ x1 = -3 ∨ x1 = -2 ∨ x1 = -1 by omega) with c1 | c1 | c1 | c1 | c1 | c1
  · refine lv_tableOut (tgt := 47) hx hb (dk_at dkX8_value_0 1 rfl) (by rw [iI_toInt hx1]; exact c1) (by decide) ?_
    refine lv_iload_n hx hb (dk_at dkX8_value_0 12 rfl) rfl (lv_at hl 0 rfl) ?_
    exact RET x1 _ _ _ _ _ ⟨rfl, (u_r_X8_value (Or.inl ⟨c1, rfl⟩)), hx1⟩ hP hS (dk_at dkX8_value_0 13 rfl)
  · refine tp_i (y := iI (-5)) (congrArg iI c1) ?_
    refine lv_tableIn (off := 44) (tgt := 45) hx hb (dk_at dkX8_value_0 1 rfl) (by decide +kernel) (by decide +kernel) (by decide +kernel) (by decide) ?_
    refine lv_iconst (v := iI 1) hx hb (dk_at dkX8_value_0 10 rfl) (by decide +kernel) ?_
    exact RET 1 _ _ _ _ _ ⟨rfl, (u_r_X8_value (Or.inr (Or.inl ⟨c1, rfl⟩))), ⟨by decide, by decide⟩⟩ hP hS (dk_at dkX8_value_0 11 rfl)
  · refine tp_i (y := iI (-4)) (congrArg iI c1) ?_
    refine lv_tableIn (off := 41) (tgt := 42) hx hb (dk_at dkX8_value_0 1 rfl) (by decide +kernel) (by decide +kernel) (by decide +kernel) (by decide) ?_
    refine lv_iload hx hb (dk_at dkX8_value_0 8 rfl) (lv_at hl 4 rfl) ?_
    exact RET x5 _ _ _ _ _ ⟨rfl, (u_r_X8_value (Or.inr (Or.inr (Or.inl ⟨c1, rfl⟩)))), hx5⟩ hP hS (dk_at dkX8_value_0 9 rfl)
  · refine tp_i (y := iI (-3)) (congrArg iI c1) ?_
    refine lv_tableIn (off := 39) (tgt := 40) hx hb (dk_at dkX8_value_0 1 rfl) (by decide +kernel) (by decide +kernel) (by decide +kernel) (by decide) ?_
    refine lv_iload_n hx hb (dk_at dkX8_value_0 6 rfl) rfl (lv_at hl 3 rfl) ?_
    exact RET x4 _ _ _ _ _ ⟨rfl, (u_r_X8_value (Or.inr (Or.inr (Or.inr (Or.inl ⟨c1, rfl⟩))))), hx4⟩ hP hS (dk_at dkX8_value_0 7 rfl)
  · refine tp_i (y := iI (-2)) (congrArg iI c1) ?_
    refine lv_tableIn (off := 37) (tgt := 38) hx hb (dk_at dkX8_value_0 1 rfl) (by decide +kernel) (by decide +kernel) (by decide +kernel) (by decide) ?_
    refine lv_iload_n hx hb (dk_at dkX8_value_0 4 rfl) rfl (lv_at hl 2 rfl) ?_
    exact RET x3 _ _ _ _ _ ⟨rfl, (u_r_X8_value (Or.inr (Or.inr (Or.inr (Or.inr (Or.inl ⟨c1, rfl⟩)))))), hx3⟩ hP hS (dk_at dkX8_value_0 5 rfl)
  · refine tp_i (y := iI (-1)) (congrArg iI c1) ?_
    refine lv_tableIn (off := 35) (tgt := 36) hx hb (dk_at dkX8_value_0 1 rfl) (by decide +kernel) (by decide +kernel) (by decide +kernel) (by decide) ?_
    refine lv_iload_n hx hb (dk_at dkX8_value_0 2 rfl) rfl (lv_at hl 1 rfl) ?_
    exact RET x2 _ _ _ _ _ ⟨rfl, (u_r_X8_value (Or.inr (Or.inr (Or.inr (Or.inr (Or.inr ⟨c1, rfl⟩)))))), hx2⟩ hP hS (dk_at dkX8_value_0 3 rfl)

abbrev tr_r_J9_floorMod_7cf53 (x1 : Int) (x2 : Int) (A : St) (z : Int) : Prop := (∃ z1 : Int, z1 = oRem x1 x2 ∧ (∃ z2 : Int, z2 = oXor x1 x2 ∧ (((0 ≤ z2) ∧ (z = z1)) ∨ ((¬ 0 ≤ z2) ∧ (((z1 = 0) ∧ (z = z1)) ∨ ((¬ z1 = 0) ∧ (∃ z5 : Int, z5 = oWrap (z1 + x2) ∧ (z = z5))))))))
def r_J9_floorMod_7cf53 (x1 : Int) (x2 : Int) (A : St) (z : Int) : Prop := tr_r_J9_floorMod_7cf53 x1 x2 A z
theorem u_r_J9_floorMod_7cf53 {x1 : Int} {x2 : Int} {A : St} {z : Int} (h : tr_r_J9_floorMod_7cf53 x1 x2 A z) : r_J9_floorMod_7cf53 x1 x2 A z := h
def q_J9_floorMod_7cf53 (x1 : Int) (x2 : Int) (A : St) (z : Int) : Prop := r_J9_floorMod_7cf53 x1 x2 A z ∧ (-2147483648 ≤ z ∧ z ≤ 2147483647)
def ws_kc_J9_floorMod_7cf53 : List Cond := .code yJ9_floorMod_7cf53 cJ9_floorMod_7cf53 3 (some .int) :: WY
set_option maxHeartbeats 4000000 in
set_option maxRecDepth 100000 in
theorem kc_J9_floorMod_7cf53 (l : Launch) (dC : Nat → ClassId) (dI : Nat → Nat → Nat) (cB cI cJ cZ cQ : ClassId) (aL aS : Nat) (q : Nat → Nat) (A : St) (x1 x2 : Int) (hI : IK A) (hx1 : (-2147483648 : Int) ≤ x1 ∧ x1 ≤ 2147483647) (hx2 : (-2147483648 : Int) ≤ x2 ∧ x2 ≤ 2147483647) (hp0 : x2 ≠ 0) : KMi l yJ9_floorMod_7cf53 ws_kc_J9_floorMod_7cf53 ({ frames := 0, cells := 0, slots := 0, locals := 0 } : Room) aL aS (dC, dI) (tyA cB cI cJ cZ cQ) (WK cB cI cJ cZ cQ q) A [.int (iI x1), .int (iI x2)] (fun z u => A = u ∧ r_J9_floorMod_7cf53 x1 x2 A z ∧ (-2147483648 ≤ z ∧ z ≤ 2147483647)) := by
  refine k_meti (cc := cJ9_floorMod_7cf53) (maxL := 3) WK_adr (by decide +kernel) rfl (Nat.le_of_ble_eq_true rfl) (fun p e s m below meth c Q AS ls hx hb hml hown hts hK hDD hA0 hE RET H locs hP hS hl => ?_)
  have hown : s.vm.findClass RJ9 = some m.cls := hown
  have hl : lv_has ls 3 [(0, .int (iI x1)), (1, .int (iI x2))] := hl
  refine lv_iload_n hx hb (dk_at dkJ9_floorMod_7cf53_0 0 rfl) rfl (lv_at hl 0 rfl) ?_
  refine lv_iload_n hx hb (dk_at dkJ9_floorMod_7cf53_0 1 rfl) rfl (lv_at hl 1 rfl) ?_
  refine lv_irem hx hb (dk_at dkJ9_floorMod_7cf53_0 2 rfl) (by exact i_ne0 (by omega) (by omega)) ?_
  refine x_absE (fun z1 gz1 hz1 => ?_)
  refine lv_istore_n (lv' := [(2, .int (iI z1)), (0, .int (iI x1)), (1, .int (iI x2))]) hx hb (dk_at dkJ9_floorMod_7cf53_0 3 rfl) rfl hl (by decide) rfl (fun ls hl => ?_)
  refine lv_iload_n hx hb (dk_at dkJ9_floorMod_7cf53_0 4 rfl) rfl (lv_at hl 1 rfl) ?_
  refine lv_iload_n hx hb (dk_at dkJ9_floorMod_7cf53_0 5 rfl) rfl (lv_at hl 2 rfl) ?_
  refine lv_ixor hx hb (dk_at dkJ9_floorMod_7cf53_0 6 rfl) ?_
  refine x_absE (fun z2 gz2 hz2 => ?_)
  refine lv_if_ge (tgt := 18) hx hb (dk_at dkJ9_floorMod_7cf53_0 7 rfl) (by decide) (fun c3 => ?_) (fun c3 => ?_)
  · have c3 : 0 ≤ z2 := (i_0le hz2).mp c3
    refine lv_iload_n hx hb (dk_at dkJ9_floorMod_7cf53_0 14 rfl) rfl (lv_at hl 0 rfl) ?_
    exact RET z1 _ _ _ _ _ ⟨rfl, (u_r_J9_floorMod_7cf53 ⟨z1, gz1.out, ⟨z2, gz2.out, (Or.inl ⟨c3, rfl⟩)⟩⟩), hz1⟩ hP hS (dk_at dkJ9_floorMod_7cf53_0 15 rfl)
  · have c3 : ¬ 0 ≤ z2 := mt (i_0le hz2).mpr c3
    refine lv_iload_n hx hb (dk_at dkJ9_floorMod_7cf53_0 8 rfl) rfl (lv_at hl 0 rfl) ?_
    refine lv_if_eq (tgt := 18) hx hb (dk_at dkJ9_floorMod_7cf53_0 9 rfl) (by decide) (fun c4 => ?_) (fun c4 => ?_)
    · have c4 : z1 = 0 := (i_eq0 hz1).mp c4
      refine lv_iload_n hx hb (dk_at dkJ9_floorMod_7cf53_0 14 rfl) rfl (lv_at hl 0 rfl) ?_
      exact RET z1 _ _ _ _ _ ⟨rfl, (u_r_J9_floorMod_7cf53 ⟨z1, gz1.out, ⟨z2, gz2.out, (Or.inr ⟨c3, (Or.inl ⟨c4, rfl⟩)⟩)⟩⟩), hz1⟩ hP hS (dk_at dkJ9_floorMod_7cf53_0 15 rfl)
    · have c4 : ¬ z1 = 0 := mt (i_eq0 hz1).mpr c4
      refine lv_iload_n hx hb (dk_at dkJ9_floorMod_7cf53_0 10 rfl) rfl (lv_at hl 0 rfl) ?_
      refine lv_iload_n hx hb (dk_at dkJ9_floorMod_7cf53_0 11 rfl) rfl (lv_at hl 2 rfl) ?_
      refine x_addv (v := z1 + x2) hx hb (dk_at dkJ9_floorMod_7cf53_0 12 rfl) (by omega) ?_
      refine x_absE (fun z5 gz5 hz5 => ?_)
      exact RET z5 _ _ _ _ _ ⟨rfl, (u_r_J9_floorMod_7cf53 ⟨z1, gz1.out, ⟨z2, gz2.out, (Or.inr ⟨c3, (Or.inr ⟨c4, ⟨z5, gz5.out, rfl⟩⟩)⟩)⟩⟩), hz5⟩ hP hS (dk_at dkJ9_floorMod_7cf53_0 13 rfl)

abbrev tr_r_J9_floorDiv_7cf53 (x1 : Int) (x2 : Int) (A : St) (z : Int) : Prop := (∃ z1 : Int, z1 = oDiv x1 x2 ∧ (∃ z2 : Int, z2 = oXor x1 x2 ∧ (((0 ≤ z2) ∧ (z = z1)) ∨ ((¬ 0 ≤ z2) ∧ (∃ z4 : Int, z4 = oMul z1 x2 ∧ (((z4 = x1) ∧ (z = z1)) ∨ ((¬ z4 = x1) ∧ (∃ z6 : Int, z6 = oWrap (z1 - 1) ∧ (z = z6)))))))))
def r_J9_floorDiv_7cf53 (x1 : Int) (x2 : Int) (A : St) (z : Int) : Prop := tr_r_J9_floorDiv_7cf53 x1 x2 A z
theorem u_r_J9_floorDiv_7cf53 {x1 : Int} {x2 : Int} {A : St} {z : Int} (h : tr_r_J9_floorDiv_7cf53 x1 x2 A z) : r_J9_floorDiv_7cf53 x1 x2 A z := h
def q_J9_floorDiv_7cf53 (x1 : Int) (x2 : Int) (A : St) (z : Int) : Prop := r_J9_floorDiv_7cf53 x1 x2 A z ∧ (-2147483648 ≤ z ∧ z ≤ 2147483647)
def ws_kc_J9_floorDiv_7cf53 : List Cond := .code yJ9_floorDiv_7cf53 cJ9_floorDiv_7cf53 3 (some .int) :: WY
set_option maxHeartbeats 4000000 in
set_option maxRecDepth 100000 in
theorem kc_J9_floorDiv_7cf53 (l : Launch) (dC : Nat → ClassId) (dI : Nat → Nat → Nat) (cB cI cJ cZ cQ : ClassId) (aL aS : Nat) (q : Nat → Nat) (A : St) (x1 x2 : Int) (hI : IK A) (hx1 : (-2147483648 : Int) ≤ x1 ∧ x1 ≤ 2147483647) (hx2 : (-2147483648 : Int) ≤ x2 ∧ x2 ≤ 2147483647) (hp0 : x2 ≠ 0) : KMi l yJ9_floorDiv_7cf53 ws_kc_J9_floorDiv_7cf53 ({ frames := 0, cells := 0, slots := 0, locals := 0 } : Room) aL aS (dC, dI) (tyA cB cI cJ cZ cQ) (WK cB cI cJ cZ cQ q) A [.int (iI x1), .int (iI x2)] (fun z u => A = u ∧ r_J9_floorDiv_7cf53 x1 x2 A z ∧ (-2147483648 ≤ z ∧ z ≤ 2147483647)) := by
  refine k_meti (cc := cJ9_floorDiv_7cf53) (maxL := 3) WK_adr (by decide +kernel) rfl (Nat.le_of_ble_eq_true rfl) (fun p e s m below meth c Q AS ls hx hb hml hown hts hK hDD hA0 hE RET H locs hP hS hl => ?_)
  have hown : s.vm.findClass RJ9 = some m.cls := hown
  have hl : lv_has ls 3 [(0, .int (iI x1)), (1, .int (iI x2))] := hl
  refine lv_iload_n hx hb (dk_at dkJ9_floorDiv_7cf53_0 0 rfl) rfl (lv_at hl 0 rfl) ?_
  refine lv_iload_n hx hb (dk_at dkJ9_floorDiv_7cf53_0 1 rfl) rfl (lv_at hl 1 rfl) ?_
  refine lv_idiv hx hb (dk_at dkJ9_floorDiv_7cf53_0 2 rfl) (by exact i_ne0 (by omega) (by omega)) ?_
  refine x_absE (fun z1 gz1 hz1 => ?_)
  refine lv_istore_n (lv' := [(2, .int (iI z1)), (0, .int (iI x1)), (1, .int (iI x2))]) hx hb (dk_at dkJ9_floorDiv_7cf53_0 3 rfl) rfl hl (by decide) rfl (fun ls hl => ?_)
  refine lv_iload_n hx hb (dk_at dkJ9_floorDiv_7cf53_0 4 rfl) rfl (lv_at hl 1 rfl) ?_
  refine lv_iload_n hx hb (dk_at dkJ9_floorDiv_7cf53_0 5 rfl) rfl (lv_at hl 2 rfl) ?_
  refine lv_ixor hx hb (dk_at dkJ9_floorDiv_7cf53_0 6 rfl) ?_
  refine x_absE (fun z2 gz2 hz2 => ?_)
  refine lv_if_ge (tgt := 21) hx hb (dk_at dkJ9_floorDiv_7cf53_0 7 rfl) (by decide) (fun c3 => ?_) (fun c3 => ?_)
  · have c3 : 0 ≤ z2 := (i_0le hz2).mp c3
    refine lv_iload_n hx hb (dk_at dkJ9_floorDiv_7cf53_1 1 rfl) rfl (lv_at hl 0 rfl) ?_
    exact RET z1 _ _ _ _ _ ⟨rfl, (u_r_J9_floorDiv_7cf53 ⟨z1, gz1.out, ⟨z2, gz2.out, (Or.inl ⟨c3, rfl⟩)⟩⟩), hz1⟩ hP hS (dk_at dkJ9_floorDiv_7cf53_1 2 rfl)
  · have c3 : ¬ 0 ≤ z2 := mt (i_0le hz2).mpr c3
    refine lv_iload_n hx hb (dk_at dkJ9_floorDiv_7cf53_0 8 rfl) rfl (lv_at hl 0 rfl) ?_
    refine lv_iload_n hx hb (dk_at dkJ9_floorDiv_7cf53_0 9 rfl) rfl (lv_at hl 2 rfl) ?_
    refine lv_imul hx hb (dk_at dkJ9_floorDiv_7cf53_0 10 rfl) ?_
    refine x_absE (fun z4 gz4 hz4 => ?_)
    refine lv_iload_n hx hb (dk_at dkJ9_floorDiv_7cf53_0 11 rfl) rfl (lv_at hl 1 rfl) ?_
    refine lv_icmp_eq (tgt := 21) hx hb (dk_at dkJ9_floorDiv_7cf53_0 12 rfl) (by decide) (fun c5 => ?_) (fun c5 => ?_)
    · have c5 : z4 = x1 := (i_eq hz4 hx1).mp c5
      refine lv_iload_n hx hb (dk_at dkJ9_floorDiv_7cf53_1 1 rfl) rfl (lv_at hl 0 rfl) ?_
      exact RET z1 _ _ _ _ _ ⟨rfl, (u_r_J9_floorDiv_7cf53 ⟨z1, gz1.out, ⟨z2, gz2.out, (Or.inr ⟨c3, ⟨z4, gz4.out, (Or.inl ⟨c5, rfl⟩)⟩⟩)⟩⟩), hz1⟩ hP hS (dk_at dkJ9_floorDiv_7cf53_1 2 rfl)
    · have c5 : ¬ z4 = x1 := mt (i_eq hz4 hx1).mpr c5
      refine lv_iload_n hx hb (dk_at dkJ9_floorDiv_7cf53_0 13 rfl) rfl (lv_at hl 0 rfl) ?_
      refine lv_iconst (v := iI 1) hx hb (dk_at dkJ9_floorDiv_7cf53_0 14 rfl) (by decide +kernel) ?_
      refine x_subv (v := z1 - 1) hx hb (dk_at dkJ9_floorDiv_7cf53_0 15 rfl) (by omega) ?_
      refine x_absE (fun z6 gz6 hz6 => ?_)
      exact RET z6 _ _ _ _ _ ⟨rfl, (u_r_J9_floorDiv_7cf53 ⟨z1, gz1.out, ⟨z2, gz2.out, (Or.inr ⟨c3, ⟨z4, gz4.out, (Or.inr ⟨c5, ⟨z6, gz6.out, rfl⟩⟩)⟩⟩)⟩⟩), hz6⟩ hP hS (dk_at dkJ9_floorDiv_7cf53_1 0 rfl)

abbrev tr_r_X8_bounded (x1 : Int) (A : St) (z : Int) : Prop := (∃ z1 : Int, ((-1 ≤ z1 ∧ z1 ≤ 1) ∧ (z1 = 0 ↔ x1 = 1000000) ∧ (z1 < 0 ↔ x1 < 1000000)) ∧ (((z1 ≤ 0) ∧ (∃ z3 : Int, ((-1 ≤ z3 ∧ z3 ≤ 1) ∧ (z3 = 0 ↔ x1 = (-1000000)) ∧ (z3 < 0 ↔ x1 < (-1000000))) ∧ (((0 ≤ z3) ∧ (∃ z5 : Int, z5 = oL2i x1 ∧ (z = z5))) ∨ ((¬ 0 ≤ z3) ∧ (z = (-1000000)))))) ∨ ((¬ z1 ≤ 0) ∧ (z = 1000000))))
def r_X8_bounded (x1 : Int) (A : St) (z : Int) : Prop := tr_r_X8_bounded x1 A z
theorem u_r_X8_bounded {x1 : Int} {A : St} {z : Int} (h : tr_r_X8_bounded x1 A z) : r_X8_bounded x1 A z := h
def q_X8_bounded (x1 : Int) (A : St) (z : Int) : Prop := r_X8_bounded x1 A z ∧ (-2147483648 ≤ z ∧ z ≤ 2147483647)
def ws_kc_X8_bounded : List Cond := .code yX8_bounded cX8_bounded 2 (some .int) :: WY
set_option maxHeartbeats 4000000 in
set_option maxRecDepth 100000 in
theorem kc_X8_bounded (l : Launch) (dC : Nat → ClassId) (dI : Nat → Nat → Nat) (cB cI cJ cZ cQ : ClassId) (aL aS : Nat) (q : Nat → Nat) (A : St) (x1 : Int) (hI : IK A) (hx1 : (-9223372036854775808 : Int) ≤ x1 ∧ x1 ≤ 9223372036854775807) : KMi l yX8_bounded ws_kc_X8_bounded ({ frames := 0, cells := 0, slots := 0, locals := 0 } : Room) aL aS (dC, dI) (tyA cB cI cJ cZ cQ) (WK cB cI cJ cZ cQ q) A [.long (jI x1)] (fun z u => A = u ∧ r_X8_bounded x1 A z ∧ (-2147483648 ≤ z ∧ z ≤ 2147483647)) := by
  refine k_meti (cc := cX8_bounded) (maxL := 2) WK_adr (plainFor_of_name (by decide +kernel)) rfl (Nat.le_of_ble_eq_true rfl) (fun p e s m below meth c Q AS ls hx hb hml hown hts hK hDD hA0 hE RET H locs hP hS hl => ?_)
  have hown : s.vm.findClass RX8 = some m.cls := hown
  have hl : lv_has ls 2 [(0, .long (jI x1))] := hl
  refine lv_lload_n hx hb (dk_at dkX8_bounded_0 0 rfl) rfl (lv_at hl 0 rfl) ?_
  refine lv_ldc2 (v := 1000000) hx hb hown (hts _ (List.mem_cons_of_mem _ wkq_1_53)) (dk_at dkX8_bounded_0 1 rfl) ?_
  refine tp_l (y := jI 1000000) (by decide +kernel) ?_
  refine x_lcmp hx hb (dk_at dkX8_bounded_0 2 rfl) (by omega) (by omega) (fun z1 hz1 hz1b hz1c => ?_)
  have gz1 := Hd.mk (And.intro hz1 (And.intro hz1b hz1c))
  clear hz1b hz1c
  refine lv_if_le (tgt := 11) hx hb (dk_at dkX8_bounded_0 3 rfl) (by decide) (fun c2 => ?_) (fun c2 => ?_)
  · have c2 : z1 ≤ 0 := (i_le0 (by omega)).mp c2
    refine lv_lload_n hx hb (dk_at dkX8_bounded_0 6 rfl) rfl (lv_at hl 0 rfl) ?_
    refine lv_ldc2 (v := (-1000000)) hx hb hown (hts _ (List.mem_cons_of_mem _ wkq_1_55)) (dk_at dkX8_bounded_0 7 rfl) ?_
    refine tp_l (y := jI (-1000000)) (by decide +kernel) ?_
    refine x_lcmp hx hb (dk_at dkX8_bounded_0 8 rfl) (by omega) (by omega) (fun z3 hz3 hz3b hz3c => ?_)
    have gz3 := Hd.mk (And.intro hz3 (And.intro hz3b hz3c))
    clear hz3b hz3c
    refine lv_if_ge (tgt := 24) hx hb (dk_at dkX8_bounded_0 9 rfl) (by decide) (fun c4 => ?_) (fun c4 => ?_)
    · have c4 : 0 ≤ z3 := (i_0le (by omega)).mp c4
      refine lv_lload_n hx hb (dk_at dkX8_bounded_0 12 rfl) rfl (lv_at hl 0 rfl) ?_
      refine lv_l2i hx hb (dk_at dkX8_bounded_0 13 rfl) rfl ?_
      refine x_absE (fun z5 gz5 hz5 => ?_)
      exact RET z5 _ _ _ _ _ ⟨rfl, (u_r_X8_bounded ⟨z1, gz1.out, (Or.inl ⟨c2, ⟨z3, gz3.out, (Or.inl ⟨c4, ⟨z5, gz5.out, rfl⟩⟩)⟩⟩)⟩), hz5⟩ hP hS (dk_at dkX8_bounded_0 14 rfl)
    · have c4 : ¬ 0 ≤ z3 := mt (i_0le (by omega)).mpr c4
      refine lv_ldc (v := (-1000000)) hx hb hown (hts _ (List.mem_cons_of_mem _ wkq_1_56)) (dk_at dkX8_bounded_0 10 rfl) ?_
      refine tp_i (y := iI (-1000000)) (by decide +kernel) ?_
      refine lv_goto (tgt := 26) hx hb (dk_at dkX8_bounded_0 11 rfl) (by decide) ?_
      exact RET (-1000000) _ _ _ _ _ ⟨rfl, (u_r_X8_bounded ⟨z1, gz1.out, (Or.inl ⟨c2, ⟨z3, gz3.out, (Or.inr ⟨c4, rfl⟩)⟩⟩)⟩), ⟨by decide, by decide⟩⟩ hP hS (dk_at dkX8_bounded_0 14 rfl)
  · have c2 : ¬ z1 ≤ 0 := mt (i_le0 (by omega)).mpr c2
    refine lv_ldc (v := 1000000) hx hb hown (hts _ (List.mem_cons_of_mem _ wkq_1_54)) (dk_at dkX8_bounded_0 4 rfl) ?_
    refine tp_i (y := iI 1000000) (by decide +kernel) ?_
    exact RET 1000000 _ _ _ _ _ ⟨rfl, (u_r_X8_bounded ⟨z1, gz1.out, (Or.inr ⟨c2, rfl⟩)⟩), ⟨by decide, by decide⟩⟩ hP hS (dk_at dkX8_bounded_0 5 rfl)

abbrev tr_r_X8_joined (x1 : Int) (x2 : Int) (x3 : Int) (A : St) (z : Int) : Prop := (((x1 < -17 ∨ -7 < x1) ∧ (∃ z2 : Int, (x2 ≤ z2 ∧ x3 ≤ z2 ∧ (z2 = x2 ∨ z2 = x3)) ∧ (z = z2))) ∨ (x1 = -17 ∧ (∃ z3 : Int, (z3 ≤ x2 ∧ z3 ≤ x3 ∧ (z3 = x2 ∨ z3 = x3)) ∧ (z = z3))) ∨ (x1 = -16 ∧ (((¬ x3 = 0) ∧ (∃ z5 : Int, q_J9_floorMod_7cf53 x2 x3 A z5 ∧ (z = z5))) ∨ ((x3 = 0) ∧ (z = 0)))) ∨ (x1 = -15 ∧ (((¬ x3 = 0) ∧ (∃ z9 : Int, q_J9_floorDiv_7cf53 x2 x3 A z9 ∧ (z = z9))) ∨ ((x3 = 0) ∧ (z = 0)))) ∨ (x1 = -14 ∧ (∃ z12 : Int, z12 = oI2l x2 ∧ (∃ z13 : Int, z13 = oI2l x3 ∧ (∃ z14 : Int, z14 = pMul z12 z13 ∧ (∃ z15 : Int, q_X8_bounded z14 A z15 ∧ (z = z15)))))) ∨ (x1 = -13 ∧ (∃ z18 : Int, z18 = oI2l x2 ∧ (∃ z19 : Int, z19 = oI2l x3 ∧ (∃ z20 : Int, z20 = pSub z18 z19 ∧ (∃ z21 : Int, q_X8_bounded z20 A z21 ∧ (z = z21)))))) ∨ (x1 = -12 ∧ (∃ z24 : Int, z24 = oI2l x2 ∧ (∃ z25 : Int, z25 = oI2l x3 ∧ (∃ z26 : Int, z26 = pAdd z24 z25 ∧ (∃ z27 : Int, q_X8_bounded z26 A z27 ∧ (z = z27)))))) ∨ (x1 = -11 ∧ (((¬ x2 = x3) ∧ (z = 0)) ∨ ((x2 = x3) ∧ (z = 1)))) ∨ (x1 = -10 ∧ (((x2 ≤ x3) ∧ (z = 0)) ∨ ((¬ x2 ≤ x3) ∧ (z = 1)))) ∨ (x1 = -9 ∧ (((x3 ≤ x2) ∧ (z = 0)) ∨ ((¬ x3 ≤ x2) ∧ (z = 1)))) ∨ (x1 = -8 ∧ (∃ z33 : Int, z33 = oAnd x2 x3 ∧ (z = z33))) ∨ (x1 = -7 ∧ (∃ z34 : Int, z34 = oOr x2 x3 ∧ (z = z34))))
def r_X8_joined (x1 : Int) (x2 : Int) (x3 : Int) (A : St) (z : Int) : Prop := tr_r_X8_joined x1 x2 x3 A z
theorem u_r_X8_joined {x1 : Int} {x2 : Int} {x3 : Int} {A : St} {z : Int} (h : tr_r_X8_joined x1 x2 x3 A z) : r_X8_joined x1 x2 x3 A z := h
def q_X8_joined (x1 : Int) (x2 : Int) (x3 : Int) (A : St) (z : Int) : Prop := r_X8_joined x1 x2 x3 A z ∧ (-2147483648 ≤ z ∧ z ≤ 2147483647)
def ws_kc_X8_joined : List Cond := .code yX8_joined cX8_joined 3 (some .int) :: WY
set_option maxHeartbeats 4000000 in
set_option maxRecDepth 100000 in
theorem kc_X8_joined (l : Launch) (dC : Nat → ClassId) (dI : Nat → Nat → Nat) (cB cI cJ cZ cQ : ClassId) (aL aS : Nat) (q : Nat → Nat) (A : St) (x1 x2 x3 : Int) (hI : IK A) (hx1 : (-2147483648 : Int) ≤ x1 ∧ x1 ≤ 2147483647) (hx2 : (-2147483648 : Int) ≤ x2 ∧ x2 ≤ 2147483647) (hx3 : (-2147483648 : Int) ≤ x3 ∧ x3 ≤ 2147483647) : KMi l yX8_joined ws_kc_X8_joined ({ frames := 1, cells := 0, slots := 0, locals := 22 } : Room) aL aS (dC, dI) (tyA cB cI cJ cZ cQ) (WK cB cI cJ cZ cQ q) A [.int (iI x1), .int (iI x2), .int (iI x3)] (fun z u => A = u ∧ r_X8_joined x1 x2 x3 A z ∧ (-2147483648 ≤ z ∧ z ≤ 2147483647)) := by
  refine k_meti (cc := cX8_joined) (maxL := 3) WK_adr (plainFor_of_name (by decide +kernel)) rfl (Nat.le_of_ble_eq_true rfl) (fun p e s m below meth c Q AS ls hx hb hml hown hts hK hDD hA0 hE RET H locs hP hS hl => ?_)
  have hown : s.vm.findClass RX8 = some m.cls := hown
  have hl : lv_has ls 3 [(0, .int (iI x1)), (1, .int (iI x2)), (2, .int (iI x3))] := hl
  refine lv_iload_n hx hb (dk_at dkX8_joined_0 0 rfl) rfl (lv_at hl 0 rfl) ?_
  rcases (show (x1 < -17 ∨ -7 < x1) ∨ x1 = -17 ∨ x1 = -16 ∨ x1 = -15 ∨ x1 = -14 ∨ x1 = -13 ∨ x1 = -12 ∨ x1 = -11 ∨ x1 = -10 ∨ x1 = -9 ∨ x1 = -8 ∨ x1 = -7 by omega) with c1 | c1 | c1 | c1 | c1 | c1 | c1 | c1 | c1 | c1 | c1 | c1
  · refine lv_tableOut (tgt := 162) hx hb (dk_at dkX8_joined_0 1 rfl) (by rw [iI_toInt hx1]; exact c1) (by decide) ?_
    refine lv_iload_n hx hb (dk_at dkX8_joined_4 8 rfl) rfl (lv_at hl 1 rfl) ?_
    refine lv_iload_n hx hb (dk_at dkX8_joined_4 9 rfl) rfl (lv_at hl 2 rfl) ?_
    refine k_max hx hb (hml.trans hl.1.symm) hown (hts _ (List.mem_cons_of_mem _ wkq_1_37)) (hts _ (List.mem_cons_of_mem _ wkq_1_38)) (hts _ (List.mem_cons_of_mem _ wkq_0_47)) (hts _ (List.mem_cons_of_mem _ wkq_1_39)) (Nat.le_of_ble_eq_true rfl) (Nat.le_of_ble_eq_true rfl) (Nat.zero_le _) (Nat.zero_le _) hx2 hx3 (dk_at dkX8_joined_4 10 rfl) (fun z2 hz2 => ?_)
    have rz2 : (-2147483648 : Int) ≤ z2 ∧ z2 ≤ 2147483647 := by omega
    have gz2 := Hd.mk hz2
    clear hz2
    exact RET z2 _ _ _ _ _ ⟨rfl, (u_r_X8_joined (Or.inl ⟨c1, ⟨z2, gz2.out, rfl⟩⟩)), rz2⟩ hP hS (dk_at dkX8_joined_4 11 rfl)
  · refine tp_i (y := iI (-17)) (congrArg iI c1) ?_
    refine lv_tableIn (off := 155) (tgt := 156) hx hb (dk_at dkX8_joined_0 1 rfl) (by decide +kernel) (by decide +kernel) (by decide +kernel) (by decide) ?_
    refine lv_iload_n hx hb (dk_at dkX8_joined_4 4 rfl) rfl (lv_at hl 1 rfl) ?_
    refine lv_iload_n hx hb (dk_at dkX8_joined_4 5 rfl) rfl (lv_at hl 2 rfl) ?_
    refine k_min hx hb (hml.trans hl.1.symm) hown (hts _ (List.mem_cons_of_mem _ wkq_1_49)) (hts _ (List.mem_cons_of_mem _ wkq_0_46)) (hts _ (List.mem_cons_of_mem _ wkq_0_47)) (hts _ (List.mem_cons_of_mem _ wkq_0_48)) (Nat.le_of_ble_eq_true rfl) (Nat.le_of_ble_eq_true rfl) (Nat.zero_le _) (Nat.zero_le _) hx2 hx3 (dk_at dkX8_joined_4 6 rfl) (fun z3 hz3 => ?_)
    have rz3 : (-2147483648 : Int) ≤ z3 ∧ z3 ≤ 2147483647 := by omega
    have gz3 := Hd.mk hz3
    clear hz3
    exact RET z3 _ _ _ _ _ ⟨rfl, (u_r_X8_joined (Or.inr (Or.inl ⟨c1, ⟨z3, gz3.out, rfl⟩⟩))), rz3⟩ hP hS (dk_at dkX8_joined_4 7 rfl)
  · refine tp_i (y := iI (-16)) (congrArg iI c1) ?_
    refine lv_tableIn (off := 141) (tgt := 142) hx hb (dk_at dkX8_joined_0 1 rfl) (by decide +kernel) (by decide +kernel) (by decide +kernel) (by decide) ?_
    refine lv_iload_n hx hb (dk_at dkX8_joined_3 12 rfl) rfl (lv_at hl 2 rfl) ?_
    refine lv_if_ne (tgt := 150) hx hb (dk_at dkX8_joined_3 13 rfl) (by decide) (fun c4 => ?_) (fun c4 => ?_)
    · have c4 : ¬ x3 = 0 := mt (i_eq0 hx3).mpr c4
      refine lv_iload_n hx hb (dk_at dkX8_joined_4 0 rfl) rfl (lv_at hl 1 rfl) ?_
      refine lv_iload_n hx hb (dk_at dkX8_joined_4 1 rfl) rfl (lv_at hl 2 rfl) ?_
      refine k_callSi (As := [.int (iI x2), .int (iI x3)]) (rest := []) ⟨hx, hb, hml, hown, hts⟩ hE (kc_J9_floorMod_7cf53 l dC dI cB cI cJ cZ cQ aL aS q _ x2 x3 hI hx2 hx3 (by omega)) (va_cwS 2 hts (goodSk wkq_2_1 wkq_2_2 wkq_1_59 wkq_2_3) rfl rfl rfl (by decide +kernel) ⟨Nat.le_of_ble_eq_true rfl, Nat.le_of_ble_eq_true rfl⟩) hK hDD hA0 hP hS rfl hl.1 (Nat.le_of_ble_eq_true rfl) (dk_at dkX8_joined_4 2 rfl) (fun z5 A6 H locs hw7 hP hS => ?_)
      obtain ⟨rfl, hw7⟩ := hw7
      have ghw7 : q_J9_floorMod_7cf53 x2 x3 A z5 := hw7
      have hw7 := hw7.2
      exact RET z5 _ _ _ _ _ ⟨rfl, (u_r_X8_joined (Or.inr (Or.inr (Or.inl ⟨c1, (Or.inl ⟨c4, ⟨z5, ghw7, rfl⟩⟩)⟩)))), hw7⟩ hP hS (dk_at dkX8_joined_4 3 rfl)
    · have c4 : x3 = 0 := (i_eq0 hx3).mp c4
      refine lv_iconst (v := iI 0) hx hb (dk_at dkX8_joined_3 14 rfl) (by decide +kernel) ?_
      refine lv_goto (tgt := 155) hx hb (dk_at dkX8_joined_3 15 rfl) (by decide) ?_
      exact RET 0 _ _ _ _ _ ⟨rfl, (u_r_X8_joined (Or.inr (Or.inr (Or.inl ⟨c1, (Or.inr ⟨c4, rfl⟩)⟩)))), ⟨by decide, by decide⟩⟩ hP hS (dk_at dkX8_joined_4 3 rfl)
  · refine tp_i (y := iI (-15)) (congrArg iI c1) ?_
    refine lv_tableIn (off := 127) (tgt := 128) hx hb (dk_at dkX8_joined_0 1 rfl) (by decide +kernel) (by decide +kernel) (by decide +kernel) (by decide) ?_
    refine lv_iload_n hx hb (dk_at dkX8_joined_3 4 rfl) rfl (lv_at hl 2 rfl) ?_
    refine lv_if_ne (tgt := 136) hx hb (dk_at dkX8_joined_3 5 rfl) (by decide) (fun c8 => ?_) (fun c8 => ?_)
    · have c8 : ¬ x3 = 0 := mt (i_eq0 hx3).mpr c8
      refine lv_iload_n hx hb (dk_at dkX8_joined_3 8 rfl) rfl (lv_at hl 1 rfl) ?_
      refine lv_iload_n hx hb (dk_at dkX8_joined_3 9 rfl) rfl (lv_at hl 2 rfl) ?_
      refine k_callSi (As := [.int (iI x2), .int (iI x3)]) (rest := []) ⟨hx, hb, hml, hown, hts⟩ hE (kc_J9_floorDiv_7cf53 l dC dI cB cI cJ cZ cQ aL aS q _ x2 x3 hI hx2 hx3 (by omega)) (va_cwS 2 hts (goodSk wkq_1_57 wkq_1_58 wkq_1_59 wkq_2_0) rfl rfl rfl (by decide +kernel) ⟨Nat.le_of_ble_eq_true rfl, Nat.le_of_ble_eq_true rfl⟩) hK hDD hA0 hP hS rfl hl.1 (Nat.le_of_ble_eq_true rfl) (dk_at dkX8_joined_3 10 rfl) (fun z9 A10 H locs hw11 hP hS => ?_)
      obtain ⟨rfl, hw11⟩ := hw11
      have ghw11 : q_J9_floorDiv_7cf53 x2 x3 A z9 := hw11
      have hw11 := hw11.2
      exact RET z9 _ _ _ _ _ ⟨rfl, (u_r_X8_joined (Or.inr (Or.inr (Or.inr (Or.inl ⟨c1, (Or.inl ⟨c8, ⟨z9, ghw11, rfl⟩⟩)⟩))))), hw11⟩ hP hS (dk_at dkX8_joined_3 11 rfl)
    · have c8 : x3 = 0 := (i_eq0 hx3).mp c8
      refine lv_iconst (v := iI 0) hx hb (dk_at dkX8_joined_3 6 rfl) (by decide +kernel) ?_
      refine lv_goto (tgt := 141) hx hb (dk_at dkX8_joined_3 7 rfl) (by decide) ?_
      exact RET 0 _ _ _ _ _ ⟨rfl, (u_r_X8_joined (Or.inr (Or.inr (Or.inr (Or.inl ⟨c1, (Or.inr ⟨c8, rfl⟩)⟩))))), ⟨by decide, by decide⟩⟩ hP hS (dk_at dkX8_joined_3 11 rfl)
  · refine tp_i (y := iI (-14)) (congrArg iI c1) ?_
    refine lv_tableIn (off := 118) (tgt := 119) hx hb (dk_at dkX8_joined_0 1 rfl) (by decide +kernel) (by decide +kernel) (by decide +kernel) (by decide) ?_
    refine lv_iload_n hx hb (dk_at dkX8_joined_2 13 rfl) rfl (lv_at hl 1 rfl) ?_
    refine lv_i2l hx hb (dk_at dkX8_joined_2 14 rfl) rfl ?_
    refine x_abslE (fun z12 gz12 hz12 => ?_)
    refine lv_iload_n hx hb (dk_at dkX8_joined_2 15 rfl) rfl (lv_at hl 2 rfl) ?_
    refine lv_i2l hx hb (dk_at dkX8_joined_3 0 rfl) rfl ?_
    refine x_abslE (fun z13 gz13 hz13 => ?_)
    refine lv_lmul hx hb (dk_at dkX8_joined_3 1 rfl) ?_
    refine x_abslE (fun z14 gz14 hz14 => ?_)
    refine k_callSi (As := [.long (jI z14)]) (rest := []) ⟨hx, hb, hml, hown, hts⟩ hE (kc_X8_bounded l dC dI cB cI cJ cZ cQ aL aS q _ z14 hI (by omega)) (va_cwS 1 hts (goodSk wkq_1_50 wkq_1_51 wkq_1_35 wkq_1_52) rfl rfl rfl (by decide +kernel) ⟨Nat.le_of_ble_eq_true rfl, Nat.le_of_ble_eq_true rfl⟩) hK hDD hA0 hP hS rfl hl.1 (Nat.le_of_ble_eq_true rfl) (dk_at dkX8_joined_3 2 rfl) (fun z15 A16 H locs hw17 hP hS => ?_)
    obtain ⟨rfl, hw17⟩ := hw17
    have ghw17 : q_X8_bounded z14 A z15 := hw17
    have hw17 := hw17.2
    exact RET z15 _ _ _ _ _ ⟨rfl, (u_r_X8_joined (Or.inr (Or.inr (Or.inr (Or.inr (Or.inl ⟨c1, ⟨z12, gz12.out, ⟨z13, gz13.out, ⟨z14, gz14.out, ⟨z15, ghw17, rfl⟩⟩⟩⟩⟩)))))), hw17⟩ hP hS (dk_at dkX8_joined_3 3 rfl)
  · refine tp_i (y := iI (-13)) (congrArg iI c1) ?_
    refine lv_tableIn (off := 109) (tgt := 110) hx hb (dk_at dkX8_joined_0 1 rfl) (by decide +kernel) (by decide +kernel) (by decide +kernel) (by decide) ?_
    refine lv_iload_n hx hb (dk_at dkX8_joined_2 6 rfl) rfl (lv_at hl 1 rfl) ?_
    refine lv_i2l hx hb (dk_at dkX8_joined_2 7 rfl) rfl ?_
    refine x_abslE (fun z18 gz18 hz18 => ?_)
    refine lv_iload_n hx hb (dk_at dkX8_joined_2 8 rfl) rfl (lv_at hl 2 rfl) ?_
    refine lv_i2l hx hb (dk_at dkX8_joined_2 9 rfl) rfl ?_
    refine x_abslE (fun z19 gz19 hz19 => ?_)
    refine lv_lsub hx hb (dk_at dkX8_joined_2 10 rfl) ?_
    refine x_abslE (fun z20 gz20 hz20 => ?_)
    refine k_callSi (As := [.long (jI z20)]) (rest := []) ⟨hx, hb, hml, hown, hts⟩ hE (kc_X8_bounded l dC dI cB cI cJ cZ cQ aL aS q _ z20 hI (by omega)) (va_cwS 1 hts (goodSk wkq_1_50 wkq_1_51 wkq_1_35 wkq_1_52) rfl rfl rfl (by decide +kernel) ⟨Nat.le_of_ble_eq_true rfl, Nat.le_of_ble_eq_true rfl⟩) hK hDD hA0 hP hS rfl hl.1 (Nat.le_of_ble_eq_true rfl) (dk_at dkX8_joined_2 11 rfl) (fun z21 A22 H locs hw23 hP hS => ?_)
    obtain ⟨rfl, hw23⟩ := hw23
    have ghw23 : q_X8_bounded z20 A z21 := hw23
    have hw23 := hw23.2
    exact RET z21 _ _ _ _ _ ⟨rfl, (u_r_X8_joined (Or.inr (Or.inr (Or.inr (Or.inr (Or.inr (Or.inl ⟨c1, ⟨z18, gz18.out, ⟨z19, gz19.out, ⟨z20, gz20.out, ⟨z21, ghw23, rfl⟩⟩⟩⟩⟩))))))), hw23⟩ hP hS (dk_at dkX8_joined_2 12 rfl)
  · refine tp_i (y := iI (-12)) (congrArg iI c1) ?_
    refine lv_tableIn (off := 100) (tgt := 101) hx hb (dk_at dkX8_joined_0 1 rfl) (by decide +kernel) (by decide +kernel) (by decide +kernel) (by decide) ?_
    refine lv_iload_n hx hb (dk_at dkX8_joined_1 15 rfl) rfl (lv_at hl 1 rfl) ?_
    refine lv_i2l hx hb (dk_at dkX8_joined_2 0 rfl) rfl ?_
    refine x_abslE (fun z24 gz24 hz24 => ?_)
    refine lv_iload_n hx hb (dk_at dkX8_joined_2 1 rfl) rfl (lv_at hl 2 rfl) ?_
    refine lv_i2l hx hb (dk_at dkX8_joined_2 2 rfl) rfl ?_
    refine x_abslE (fun z25 gz25 hz25 => ?_)
    refine lv_ladd hx hb (dk_at dkX8_joined_2 3 rfl) ?_
    refine x_abslE (fun z26 gz26 hz26 => ?_)
    refine k_callSi (As := [.long (jI z26)]) (rest := []) ⟨hx, hb, hml, hown, hts⟩ hE (kc_X8_bounded l dC dI cB cI cJ cZ cQ aL aS q _ z26 hI (by omega)) (va_cwS 1 hts (goodSk wkq_1_50 wkq_1_51 wkq_1_35 wkq_1_52) rfl rfl rfl (by decide +kernel) ⟨Nat.le_of_ble_eq_true rfl, Nat.le_of_ble_eq_true rfl⟩) hK hDD hA0 hP hS rfl hl.1 (Nat.le_of_ble_eq_true rfl) (dk_at dkX8_joined_2 4 rfl) (fun z27 A28 H locs hw29 hP hS => ?_)
    obtain ⟨rfl, hw29⟩ := hw29
    have ghw29 : q_X8_bounded z26 A z27 := hw29
    have hw29 := hw29.2
    exact RET z27 _ _ _ _ _ ⟨rfl, (u_r_X8_joined (Or.inr (Or.inr (Or.inr (Or.inr (Or.inr (Or.inr (Or.inl ⟨c1, ⟨z24, gz24.out, ⟨z25, gz25.out, ⟨z26, gz26.out, ⟨z27, ghw29, rfl⟩⟩⟩⟩⟩)))))))), hw29⟩ hP hS (dk_at dkX8_joined_2 5 rfl)
  · refine tp_i (y := iI (-11)) (congrArg iI c1) ?_
    refine lv_tableIn (off := 89) (tgt := 90) hx hb (dk_at dkX8_joined_0 1 rfl) (by decide +kernel) (by decide +kernel) (by decide +kernel) (by decide) ?_
    refine lv_iload_n hx hb (dk_at dkX8_joined_1 8 rfl) rfl (lv_at hl 1 rfl) ?_
    refine lv_iload_n hx hb (dk_at dkX8_joined_1 9 rfl) rfl (lv_at hl 2 rfl) ?_
    refine lv_icmp_ne (tgt := 99) hx hb (dk_at dkX8_joined_1 10 rfl) (by decide) (fun c30 => ?_) (fun c30 => ?_)
    · have c30 : ¬ x2 = x3 := mt (i_eq hx2 hx3).mpr c30
      refine lv_iconst (v := iI 0) hx hb (dk_at dkX8_joined_1 13 rfl) (by decide +kernel) ?_
      exact RET 0 _ _ _ _ _ ⟨rfl, (u_r_X8_joined (Or.inr (Or.inr (Or.inr (Or.inr (Or.inr (Or.inr (Or.inr (Or.inl ⟨c1, (Or.inl ⟨c30, rfl⟩)⟩))))))))), ⟨by decide, by decide⟩⟩ hP hS (dk_at dkX8_joined_1 14 rfl)
    · have c30 : x2 = x3 := (i_eq hx2 hx3).mp c30
      refine lv_iconst (v := iI 1) hx hb (dk_at dkX8_joined_1 11 rfl) (by decide +kernel) ?_
      refine lv_goto (tgt := 100) hx hb (dk_at dkX8_joined_1 12 rfl) (by decide) ?_
      exact RET 1 _ _ _ _ _ ⟨rfl, (u_r_X8_joined (Or.inr (Or.inr (Or.inr (Or.inr (Or.inr (Or.inr (Or.inr (Or.inl ⟨c1, (Or.inr ⟨c30, rfl⟩)⟩))))))))), ⟨by decide, by decide⟩⟩ hP hS (dk_at dkX8_joined_1 14 rfl)
  · refine tp_i (y := iI (-10)) (congrArg iI c1) ?_
    refine lv_tableIn (off := 78) (tgt := 79) hx hb (dk_at dkX8_joined_0 1 rfl) (by decide +kernel) (by decide +kernel) (by decide +kernel) (by decide) ?_
    refine lv_iload_n hx hb (dk_at dkX8_joined_1 1 rfl) rfl (lv_at hl 1 rfl) ?_
    refine lv_iload_n hx hb (dk_at dkX8_joined_1 2 rfl) rfl (lv_at hl 2 rfl) ?_
    refine lv_icmp_le (tgt := 88) hx hb (dk_at dkX8_joined_1 3 rfl) (by decide) (fun c31 => ?_) (fun c31 => ?_)
    · have c31 : x2 ≤ x3 := (i_le hx2 hx3).mp c31
      refine lv_iconst (v := iI 0) hx hb (dk_at dkX8_joined_1 6 rfl) (by decide +kernel) ?_
      exact RET 0 _ _ _ _ _ ⟨rfl, (u_r_X8_joined (Or.inr (Or.inr (Or.inr (Or.inr (Or.inr (Or.inr (Or.inr (Or.inr (Or.inl ⟨c1, (Or.inl ⟨c31, rfl⟩)⟩)))))))))), ⟨by decide, by decide⟩⟩ hP hS (dk_at dkX8_joined_1 7 rfl)
    · have c31 : ¬ x2 ≤ x3 := mt (i_le hx2 hx3).mpr c31
      refine lv_iconst (v := iI 1) hx hb (dk_at dkX8_joined_1 4 rfl) (by decide +kernel) ?_
      refine lv_goto (tgt := 89) hx hb (dk_at dkX8_joined_1 5 rfl) (by decide) ?_
      exact RET 1 _ _ _ _ _ ⟨rfl, (u_r_X8_joined (Or.inr (Or.inr (Or.inr (Or.inr (Or.inr (Or.inr (Or.inr (Or.inr (Or.inl ⟨c1, (Or.inr ⟨c31, rfl⟩)⟩)))))))))), ⟨by decide, by decide⟩⟩ hP hS (dk_at dkX8_joined_1 7 rfl)
  · refine tp_i (y := iI (-9)) (congrArg iI c1) ?_
    refine lv_tableIn (off := 67) (tgt := 68) hx hb (dk_at dkX8_joined_0 1 rfl) (by decide +kernel) (by decide +kernel) (by decide +kernel) (by decide) ?_
    refine lv_iload_n hx hb (dk_at dkX8_joined_0 10 rfl) rfl (lv_at hl 1 rfl) ?_
    refine lv_iload_n hx hb (dk_at dkX8_joined_0 11 rfl) rfl (lv_at hl 2 rfl) ?_
    refine lv_icmp_ge (tgt := 77) hx hb (dk_at dkX8_joined_0 12 rfl) (by decide) (fun c32 => ?_) (fun c32 => ?_)
    · have c32 : x3 ≤ x2 := (i_le hx3 hx2).mp c32
      refine lv_iconst (v := iI 0) hx hb (dk_at dkX8_joined_0 15 rfl) (by decide +kernel) ?_
      exact RET 0 _ _ _ _ _ ⟨rfl, (u_r_X8_joined (Or.inr (Or.inr (Or.inr (Or.inr (Or.inr (Or.inr (Or.inr (Or.inr (Or.inr (Or.inl ⟨c1, (Or.inl ⟨c32, rfl⟩)⟩))))))))))), ⟨by decide, by decide⟩⟩ hP hS (dk_at dkX8_joined_1 0 rfl)
    · have c32 : ¬ x3 ≤ x2 := mt (i_le hx3 hx2).mpr c32
      refine lv_iconst (v := iI 1) hx hb (dk_at dkX8_joined_0 13 rfl) (by decide +kernel) ?_
      refine lv_goto (tgt := 78) hx hb (dk_at dkX8_joined_0 14 rfl) (by decide) ?_
      exact RET 1 _ _ _ _ _ ⟨rfl, (u_r_X8_joined (Or.inr (Or.inr (Or.inr (Or.inr (Or.inr (Or.inr (Or.inr (Or.inr (Or.inr (Or.inl ⟨c1, (Or.inr ⟨c32, rfl⟩)⟩))))))))))), ⟨by decide, by decide⟩⟩ hP hS (dk_at dkX8_joined_1 0 rfl)
  · refine tp_i (y := iI (-8)) (congrArg iI c1) ?_
    refine lv_tableIn (off := 63) (tgt := 64) hx hb (dk_at dkX8_joined_0 1 rfl) (by decide +kernel) (by decide +kernel) (by decide +kernel) (by decide) ?_
    refine lv_iload_n hx hb (dk_at dkX8_joined_0 6 rfl) rfl (lv_at hl 1 rfl) ?_
    refine lv_iload_n hx hb (dk_at dkX8_joined_0 7 rfl) rfl (lv_at hl 2 rfl) ?_
    refine lv_iand hx hb (dk_at dkX8_joined_0 8 rfl) ?_
    refine x_absE (fun z33 gz33 hz33 => ?_)
    exact RET z33 _ _ _ _ _ ⟨rfl, (u_r_X8_joined (Or.inr (Or.inr (Or.inr (Or.inr (Or.inr (Or.inr (Or.inr (Or.inr (Or.inr (Or.inr (Or.inl ⟨c1, ⟨z33, gz33.out, rfl⟩⟩)))))))))))), hz33⟩ hP hS (dk_at dkX8_joined_0 9 rfl)
  · refine tp_i (y := iI (-7)) (congrArg iI c1) ?_
    refine lv_tableIn (off := 59) (tgt := 60) hx hb (dk_at dkX8_joined_0 1 rfl) (by decide +kernel) (by decide +kernel) (by decide +kernel) (by decide) ?_
    refine lv_iload_n hx hb (dk_at dkX8_joined_0 2 rfl) rfl (lv_at hl 1 rfl) ?_
    refine lv_iload_n hx hb (dk_at dkX8_joined_0 3 rfl) rfl (lv_at hl 2 rfl) ?_
    refine lv_ior hx hb (dk_at dkX8_joined_0 4 rfl) ?_
    refine x_absE (fun z34 gz34 hz34 => ?_)
    exact RET z34 _ _ _ _ _ ⟨rfl, (u_r_X8_joined (Or.inr (Or.inr (Or.inr (Or.inr (Or.inr (Or.inr (Or.inr (Or.inr (Or.inr (Or.inr (Or.inr ⟨c1, ⟨z34, gz34.out, rfl⟩⟩)))))))))))), hz34⟩ hP hS (dk_at dkX8_joined_0 5 rfl)

abbrev tr_d_X8_holds_3 (ta : Nat) (z3 : Int) (A5 : St) (z : Int) (u : St) : Prop := (((¬ z3 = 1) ∧ (z = 0 ∧ u = A5)) ∨ ((z3 = 1) ∧ (∃ z46 : Int, z46 = A5 (ta + 2) (0 : Int).toNat ∧ (((¬ z46 = 1) ∧ (z = 0 ∧ u = A5)) ∨ ((z46 = 1) ∧ (z = 1 ∧ u = A5))))))
def d_X8_holds_3 (ta : Nat) (z3 : Int) (A5 : St) (z : Int) (u : St) : Prop := tr_d_X8_holds_3 ta z3 A5 z u
theorem u_d_X8_holds_3 {ta : Nat} {z3 : Int} {A5 : St} {z : Int} {u : St} (h : tr_d_X8_holds_3 ta z3 A5 z u) : d_X8_holds_3 ta z3 A5 z u := h
abbrev tr_d_X8_holds_2 (K1 : Int → Int → St → Prop) (z2 : Int) (z : Int) (u : St) (z39 : Int) (A41 : St) : Prop := ((IK A41) ∧ ((1 ≤ z39 ∧ z39 ≤ 64) ∧ (K1 (z2 + 1) z39 A41)))
def d_X8_holds_2 (K1 : Int → Int → St → Prop) (z2 : Int) (z : Int) (u : St) (z39 : Int) (A41 : St) : Prop := tr_d_X8_holds_2 K1 z2 z u z39 A41
theorem u_d_X8_holds_2 {K1 : Int → Int → St → Prop} {z2 : Int} {z : Int} {u : St} {z39 : Int} {A41 : St} (h : tr_d_X8_holds_2 K1 z2 z u z39 A41) : d_X8_holds_2 K1 z2 z u z39 A41 := h
abbrev tr_d_X8_holds_1 (ta : Nat) (x2 : Int) (x3 : Int) (x4 : Int) (x5 : Int) (x6 : Int) (A : St) (z : Int) (u : St) (K1 : Int → Int → St → Prop) (z2 : Int) (z3 : Int) (A5 : St) : Prop := ((IK A5) ∧ ((0 ≤ z2 ∧ z2 ≤ 2147483647) ∧ ((0 ≤ z3 ∧ z3 ≤ 64) ∧ (((x2 ≤ z2) ∧ (d_X8_holds_3 ta z3 A5 z u)) ∨ ((¬ x2 ≤ z2) ∧ ((((A ta 2) ≤ z2) ∧ (d_X8_holds_3 ta z3 A5 z u)) ∨ ((¬ (A ta 2) ≤ z2) ∧ (∃ z19 : Int, z19 = A5 (ta + 1) (z2).toNat ∧ (((z19 < (-5)) ∧ (((¬ z19 = (-6)) ∧ (((2 ≤ z3) ∧ (∃ z24 : Int, z24 = A5 (ta + 2) (z3 - 2).toNat ∧ (∃ z25 : Int, z25 = A5 (ta + 2) (z3 - 1).toNat ∧ (∃ z26 : Int, q_X8_joined z19 z24 z25 A5 z26 ∧ (∃ A29 : St, A29 = stA A5 (ta + 2) (z3 - 2).toNat z26 ∧ (d_X8_holds_2 K1 z2 z u (z3 - 1) A29)))))) ∨ ((¬ 2 ≤ z3) ∧ (z = 0 ∧ u = A5)))) ∨ ((z19 = (-6)) ∧ (((1 ≤ z3) ∧ (∃ z31 : Int, z31 = A5 (ta + 2) (z3 - 1).toNat ∧ (∃ z32 : Int, z32 = oWrap (-z31 + 1) ∧ (∃ A33 : St, A33 = stA A5 (ta + 2) (z3 - 1).toNat z32 ∧ (d_X8_holds_2 K1 z2 z u z3 A33))))) ∨ ((¬ 1 ≤ z3) ∧ (z = 0 ∧ u = A5)))))) ∨ ((¬ z19 < (-5)) ∧ (((z3 < 64) ∧ (∃ z35 : Int, q_X8_value z19 x3 x4 x5 x6 A5 z35 ∧ (∃ A38 : St, A38 = stA A5 (ta + 2) (z3).toNat z35 ∧ (d_X8_holds_2 K1 z2 z u (z3 + 1) A38)))) ∨ ((¬ z3 < 64) ∧ (z = 0 ∧ u = A5)))))))))))))
def d_X8_holds_1 (ta : Nat) (x2 : Int) (x3 : Int) (x4 : Int) (x5 : Int) (x6 : Int) (A : St) (z : Int) (u : St) : Nat → Int → Int → St → Prop
  | 0, _, _, _ => False
  | nn9 + 1, z2, z3, A5 => tr_d_X8_holds_1 ta x2 x3 x4 x5 x6 A z u (fun z2 z3 A5 => d_X8_holds_1 ta x2 x3 x4 x5 x6 A z u nn9 z2 z3 A5) z2 z3 A5
theorem u_d_X8_holds_1 {ta : Nat} {x2 : Int} {x3 : Int} {x4 : Int} {x5 : Int} {x6 : Int} {A : St} {z : Int} {u : St} {nn9 : Nat} {z2 : Int} {z3 : Int} {A5 : St} (h : tr_d_X8_holds_1 ta x2 x3 x4 x5 x6 A z u (fun z2 z3 A5 => d_X8_holds_1 ta x2 x3 x4 x5 x6 A z u nn9 z2 z3 A5) z2 z3 A5) : d_X8_holds_1 ta x2 x3 x4 x5 x6 A z u (nn9 + 1) z2 z3 A5 := h
abbrev tr_r_X8_holds (ta : Nat) (x1 : Int) (x2 : Int) (x3 : Int) (x4 : Int) (x5 : Int) (x6 : Int) (A : St) (z : Int) (u : St) : Prop := (∃ z1 : Int, (x1 ≤ z1 ∧ 0 ≤ z1 ∧ (z1 = x1 ∨ z1 = 0)) ∧ (∃ nn9 : Nat, d_X8_holds_1 ta x2 x3 x4 x5 x6 A z u nn9 z1 0 A))
def r_X8_holds (ta : Nat) (x1 : Int) (x2 : Int) (x3 : Int) (x4 : Int) (x5 : Int) (x6 : Int) (A : St) (z : Int) (u : St) : Prop := tr_r_X8_holds ta x1 x2 x3 x4 x5 x6 A z u
theorem u_r_X8_holds {ta : Nat} {x1 : Int} {x2 : Int} {x3 : Int} {x4 : Int} {x5 : Int} {x6 : Int} {A : St} {z : Int} {u : St} (h : tr_r_X8_holds ta x1 x2 x3 x4 x5 x6 A z u) : r_X8_holds ta x1 x2 x3 x4 x5 x6 A z u := h
def q_X8_holds (ta : Nat) (x1 : Int) (x2 : Int) (x3 : Int) (x4 : Int) (x5 : Int) (x6 : Int) (A : St) (z : Int) (u : St) : Prop := r_X8_holds ta x1 x2 x3 x4 x5 x6 A z u ∧ IK u ∧ fk [72, 103] [] A u ∧ (0 ≤ z ∧ z ≤ 1)
def ws_kc_X8_holds : List Cond := .code yX8_holds cX8_holds 10 (some .boolean) :: WY
set_option maxHeartbeats 4000000 in
set_option maxRecDepth 100000 in
theorem kc_X8_holds (l : Launch) (dC : Nat → ClassId) (dI : Nat → Nat → Nat) (cB cI cJ cZ cQ : ClassId) (aL aS : Nat) (q : Nat → Nat) (A : St) (ta : Nat) (x1 x2 x3 x4 x5 x6 : Int) (hI : IK A) (hta : isE ta) (hx1 : (-2147483648 : Int) ≤ x1 ∧ x1 ≤ 2147483647) (hx2 : (-2147483648 : Int) ≤ x2 ∧ x2 ≤ 2147483647) (hx3 : (-2147483648 : Int) ≤ x3 ∧ x3 ≤ 2147483647) (hx4 : (-2147483648 : Int) ≤ x4 ∧ x4 ≤ 2147483647) (hx5 : (-2147483648 : Int) ≤ x5 ∧ x5 ≤ 2147483647) (hx6 : (-2147483648 : Int) ≤ x6 ∧ x6 ≤ 2147483647) : KMi l yX8_holds ws_kc_X8_holds ({ frames := 2, cells := 0, slots := 0, locals := 44 } : Room) aL aS (dC, dI) (tyA cB cI cJ cZ cQ) (WK cB cI cJ cZ cQ q) A [.ref (q ta), .int (iI x1), .int (iI x2), .int (iI x3), .int (iI x4), .int (iI x5), .int (iI x6)] (fun z u => r_X8_holds ta x1 x2 x3 x4 x5 x6 A z u ∧ IK u ∧ fk [72, 103] [] A u ∧ (0 ≤ z ∧ z ≤ 1)) := by
  refine k_metz (cc := cX8_holds) (maxL := 10) WK_adr (plainFor_of_name (by decide +kernel)) rfl (Nat.le_of_ble_eq_true rfl) (fun z u h => h.2.2.2) (fun p e s m below meth c Q AS ls hx hb hml hown hts hK hDD hA0 hE RET H locs hP hS hl => ?_)
  have hown : s.vm.findClass RX8 = some m.cls := hown
  have hl : lv_has ls 10 [(0, .ref (q ta)), (1, .int (iI x1)), (2, .int (iI x2)), (3, .int (iI x3)), (4, .int (iI x4)), (5, .int (iI x5)), (6, .int (iI x6))] := hl
  have hiX8 : ∀ w ∈ u_ws RX8 TX8 3, w ∈ ws_kc_X8_holds := fun w h => List.mem_cons_of_mem _ (wy_layX8 w h)
  refine lv_iconst (v := iI 0) hx hb (dk_at dkX8_holds_0 0 rfl) (by decide +kernel) ?_
  refine lv_istore (lv' := [(7, .int (iI 0)), (0, .ref (q ta)), (1, .int (iI x1)), (2, .int (iI x2)), (3, .int (iI x3)), (4, .int (iI x4)), (5, .int (iI x5)), (6, .int (iI x6))]) hx hb (dk_at dkX8_holds_0 1 rfl) hl (by decide) rfl (fun ls hl => ?_)
  refine lv_iload_n hx hb (dk_at dkX8_holds_0 2 rfl) rfl (lv_at hl 2 rfl) ?_
  refine lv_iconst (v := iI 0) hx hb (dk_at dkX8_holds_0 3 rfl) (by decide +kernel) ?_
  refine k_max hx hb (hml.trans hl.1.symm) hown (hts _ (List.mem_cons_of_mem _ wkq_1_37)) (hts _ (List.mem_cons_of_mem _ wkq_1_38)) (hts _ (List.mem_cons_of_mem _ wkq_0_47)) (hts _ (List.mem_cons_of_mem _ wkq_1_39)) (Nat.le_of_ble_eq_true rfl) (Nat.le_of_ble_eq_true rfl) (Nat.zero_le _) (Nat.zero_le _) hx1 ⟨by decide, by decide⟩ (dk_at dkX8_holds_0 4 rfl) (fun z1 hz1 => ?_)
  have rz1 : (0 : Int) ≤ z1 ∧ z1 ≤ 2147483647 := by omega
  have gz1 := Hd.mk hz1
  clear hz1
  refine lv_istore (lv' := [(8, .int (iI z1)), (7, .int (iI 0)), (0, .ref (q ta)), (1, .int (iI x1)), (2, .int (iI x2)), (3, .int (iI x3)), (4, .int (iI x4)), (5, .int (iI x5)), (6, .int (iI x6))]) hx hb (dk_at dkX8_holds_0 5 rfl) hl (by decide) rfl (fun ls hl => ?_)
  have L10_6 : ∀ (n10 : Nat) (z2 z3 : Int) (A5 : St) (H : Heap) (locs : List Loc) (ls : Array Slot), (0 ≤ z2 ∧ z2 ≤ 2147483647) → (0 ≤ z3 ∧ z3 ≤ 64) → (∀ (z : Int) (u : St), (∃ mm1 : Nat, (d_X8_holds_1 ta x2 x3 x4 x5 x6 A z u mm1 z2 z3 A5)) → r_X8_holds ta x1 x2 x3 x4 x5 x6 A z u) → ((2147483648 - z2).toNat = n10) → IK A5 → fk [72, 103] [] A A5 → va_P (dC, dI) vwCl (WK cB cI cJ cZ cQ q A5) H → va_S AS s.heap H locs → lv_has ls 10 [(8, .int (iI z2)), (7, .int (iI z3)), (0, .ref (q ta)), (1, .int (iI x1)), (2, .int (iI x2)), (3, .int (iI x3)), (4, .int (iI x4)), (5, .int (iI x5)), (6, .int (iI x6))] → W p l e (headSpec ws_kc_X8_holds ({ frames := 2, cells := 0, slots := 0, locals := 44 } : Room)).room s m [.ref (q ta), .int (iI x1), .int (iI x2), .int (iI x3), .int (iI x4), .int (iI x5), .int (iI x6)].toArray below meth c H locs 0 0 Q (F0 m 10 ls []) := by
    intro n10
    induction n10 using Nat.strongRecOn with
    | ind n10 ih7 =>
      intro z2 z3 A5 H locs ls f8 f9 hk1 hn10 hI hj4 hP hS hl
      have gI11 : Hd (IK A5) := Hd.mk hI
      refine lv_iload hx hb (dk_at dkX8_holds_0 6 rfl) (lv_at hl 0 rfl) ?_
      refine lv_iload_n hx hb (dk_at dkX8_holds_0 7 rfl) rfl (lv_at hl 4 rfl) ?_
      have J168_13 : ∀ (H : Heap) (locs : List Loc) (ls : Array Slot), (∀ (z : Int) (u : St), (∃ mm1 : Nat, (d_X8_holds_3 ta z3 A5 z u)) → r_X8_holds ta x1 x2 x3 x4 x5 x6 A z u) → va_P (dC, dI) vwCl (WK cB cI cJ cZ cQ q A5) H → va_S AS s.heap H locs → lv_has ls 10 [(8, .int (iI z2)), (7, .int (iI z3)), (0, .ref (q ta)), (1, .int (iI x1)), (2, .int (iI x2)), (3, .int (iI x3)), (4, .int (iI x4)), (5, .int (iI x5)), (6, .int (iI x6))] → W p l e (headSpec ws_kc_X8_holds ({ frames := 2, cells := 0, slots := 0, locals := 44 } : Room)).room s m [.ref (q ta), .int (iI x1), .int (iI x2), .int (iI x3), .int (iI x4), .int (iI x5), .int (iI x6)].toArray below meth c H locs 0 0 Q (F0 m 168 ls []) := by
        intro H locs ls hk3 hP hS hl
        refine lv_iload hx hb (dk_at dkX8_holds_5 10 rfl) (lv_at hl 1 rfl) ?_
        refine lv_iconst (v := iI 1) hx hb (dk_at dkX8_holds_5 11 rfl) (by decide +kernel) ?_
        refine lv_icmp_ne (tgt := 188) hx hb (dk_at dkX8_holds_5 12 rfl) (by decide) (fun c45 => ?_) (fun c45 => ?_)
        · have c45 : ¬ z3 = 1 := mt (i_eq (rb f9 (by decide) (by decide)) ⟨by decide, by decide⟩).mpr c45
          refine lv_iconst (v := iI 0) hx hb (dk_at dkX8_holds_6 5 rfl) (by decide +kernel) ?_
          exact RET 0 _ _ _ _ _ ⟨hk3 _ _ ⟨0, (u_d_X8_holds_3 (Or.inl ⟨c45, ⟨rfl, rfl⟩⟩))⟩, hI, fk.trans (fk.rf) hj4 rfl rfl, ⟨by decide, by decide⟩⟩ hP hS (dk_at dkX8_holds_6 6 rfl)
        · have c45 : z3 = 1 := (i_eq (rb f9 (by decide) (by decide)) ⟨by decide, by decide⟩).mp c45
          refine lv_aload_n hx hb (dk_at dkX8_holds_5 13 rfl) rfl (lv_at hl 2 rfl) ?_
          refine va_get (D := (dC, dI)) (ci := 8) (v := .ref (q (ta + 2))) (C := RX8) (T := TX8) (N := 3) hx hb hts hiX8 hown hK hP ta (wkE hta) rfl 1 (by decide) (hts _ (List.mem_cons_of_mem _ wkq_1_42)) (fun _ h9 => h9) rfl (dk_at dkX8_holds_5 14 rfl) ?_
          refine lv_iconst (v := iI 0) hx hb (dk_at dkX8_holds_5 15 rfl) (by decide +kernel) ?_
          refine x_iald (Wf := WK cB cI cJ cZ cQ q) hx hb hK hP (ta + 2) 1 (wkEs hta) rfl (by decide) (by decide) (dk_at dkX8_holds_6 0 rfl) (fun z46 hz46 => ?_)
          have rz46 : (-2147483648 : Int) ≤ z46 ∧ z46 ≤ 2147483647 := by rw [hz46]; exact irEs hta hI
          have gz46 := Hd.mk hz46
          refine lv_iconst (v := iI 1) hx hb (dk_at dkX8_holds_6 1 rfl) (by decide +kernel) ?_
          refine lv_icmp_ne (tgt := 188) hx hb (dk_at dkX8_holds_6 2 rfl) (by decide) (fun c47 => ?_) (fun c47 => ?_)
          · have c47 : ¬ z46 = 1 := mt (i_eq rz46 ⟨by decide, by decide⟩).mpr c47
            refine lv_iconst (v := iI 0) hx hb (dk_at dkX8_holds_6 5 rfl) (by decide +kernel) ?_
            exact RET 0 _ _ _ _ _ ⟨hk3 _ _ ⟨0, (u_d_X8_holds_3 (Or.inr ⟨c45, ⟨z46, gz46.out, (Or.inl ⟨c47, ⟨rfl, rfl⟩⟩)⟩⟩))⟩, hI, fk.trans (fk.rf) hj4 rfl rfl, ⟨by decide, by decide⟩⟩ hP hS (dk_at dkX8_holds_6 6 rfl)
          · have c47 : z46 = 1 := (i_eq rz46 ⟨by decide, by decide⟩).mp c47
            refine lv_iconst (v := iI 1) hx hb (dk_at dkX8_holds_6 3 rfl) (by decide +kernel) ?_
            refine lv_goto (tgt := 189) hx hb (dk_at dkX8_holds_6 4 rfl) (by decide) ?_
            exact RET 1 _ _ _ _ _ ⟨hk3 _ _ ⟨0, (u_d_X8_holds_3 (Or.inr ⟨c45, ⟨z46, gz46.out, (Or.inr ⟨c47, ⟨rfl, rfl⟩⟩)⟩⟩))⟩, hI, fk.trans (fk.rf) hj4 rfl rfl, ⟨by decide, by decide⟩⟩ hP hS (dk_at dkX8_holds_6 6 rfl)
      refine lv_icmp_ge (tgt := 168) hx hb (dk_at dkX8_holds_0 8 rfl) (by decide) (fun c12 => ?_) (fun c12 => ?_)
      · have c12 : x2 ≤ z2 := (i_le hx2 (rb f8 (by decide) (by decide))).mp c12
        exact J168_13 _ _ _ (fun zq uq ⟨mm1, hq⟩ => hk1 _ _ ⟨mm1 + 1, (u_d_X8_holds_1 ⟨gI11.out, ⟨f8, ⟨f9, (Or.inl ⟨c12, hq⟩)⟩⟩⟩)⟩) hP hS (lv_sub hl [0, 1, 2, 3, 4, 5, 6, 7, 8] rfl)
      · have c12 : ¬ x2 ≤ z2 := mt (i_le hx2 (rb f8 (by decide) (by decide))).mpr c12
        refine lv_iload hx hb (dk_at dkX8_holds_0 9 rfl) (lv_at hl 0 rfl) ?_
        refine lv_aload_n hx hb (dk_at dkX8_holds_0 10 rfl) rfl (lv_at hl 2 rfl) ?_
        have e14 : A5 ta 2 = (A ta 2) := (hj4 ta 2 (isE.b2 (o := fun b => List.contains [72, 103] b) hta rfl rfl) (isE.b2 (o := fun b => fin2 [] b 2) hta rfl rfl))
        have r15 : (0 : Int) ≤ (A ta 2) ∧ (A ta 2) ≤ 1600 := by rw [← e14]; exact irE_2 hta hI
        refine va_get (D := (dC, dI)) (ci := 8) (v := .int (iI (A5 ta 2))) (C := RX8) (T := TX8) (N := 3) hx hb hts hiX8 hown hK hP ta (wkE hta) rfl 2 (by decide) (hts _ (List.mem_cons_of_mem _ wkq_1_40)) (fun _ h9 => h9) rfl (dk_at dkX8_holds_0 11 rfl) ?_
        refine tp_i (y := iI (A ta 2)) (congrArg iI e14) ?_
        refine lv_icmp_ge (tgt := 168) hx hb (dk_at dkX8_holds_0 12 rfl) (by decide) (fun c16 => ?_) (fun c16 => ?_)
        · have c16 : (A ta 2) ≤ z2 := (i_le (rb r15 (by decide) (by decide)) (rb f8 (by decide) (by decide))).mp c16
          exact J168_13 _ _ _ (fun zq uq ⟨mm1, hq⟩ => hk1 _ _ ⟨mm1 + 1, (u_d_X8_holds_1 ⟨gI11.out, ⟨f8, ⟨f9, (Or.inr ⟨c12, (Or.inl ⟨c16, hq⟩)⟩)⟩⟩⟩)⟩) hP hS (lv_sub hl [0, 1, 2, 3, 4, 5, 6, 7, 8] rfl)
        · have c16 : ¬ (A ta 2) ≤ z2 := mt (i_le (rb r15 (by decide) (by decide)) (rb f8 (by decide) (by decide))).mpr c16
          refine lv_iload hx hb (dk_at dkX8_holds_0 13 rfl) (lv_at hl 0 rfl) ?_
          refine lv_sipush (v := iI 1600) hx hb (dk_at dkX8_holds_0 14 rfl) (by decide +kernel) ?_
          refine lv_icmp_ge (tgt := 168) hx hb (dk_at dkX8_holds_0 15 rfl) (by decide) (fun c17 => False.elim (by have c17 : 1600 ≤ z2 := (i_le ⟨by decide, by decide⟩ (rb f8 (by decide) (by decide))).mp c17; omega)) (fun _ => ?_)
          refine lv_aload_n hx hb (dk_at dkX8_holds_1 0 rfl) rfl (lv_at hl 2 rfl) ?_
          refine va_get (D := (dC, dI)) (ci := 8) (v := .ref (q (ta + 1))) (C := RX8) (T := TX8) (N := 3) hx hb hts hiX8 hown hK hP ta (wkE hta) rfl 0 (by decide) (hts _ (List.mem_cons_of_mem _ wkq_1_41)) (fun _ h9 => h9) rfl (dk_at dkX8_holds_1 1 rfl) ?_
          refine lv_iload hx hb (dk_at dkX8_holds_1 2 rfl) (lv_at hl 0 rfl) ?_
          have a18 : ∀ k, A5 (ta + 1) k = A (ta + 1) k := fun k => hj4 (ta + 1) k (isE.b2 (o := fun b => List.contains [72, 103] (b + 1)) hta rfl rfl) (isE.b2 (o := fun b => fin2 [] (b + 1) k) hta rfl rfl)
          refine x_iald (Wf := WK cB cI cJ cZ cQ q) hx hb hK hP (ta + 1) 1 (wkEc hta) rfl (by omega) (by decide) (dk_at dkX8_holds_1 3 rfl) (fun z19 hz19 => ?_)
          have rz19 : (-2147483648 : Int) ≤ z19 ∧ z19 ≤ 2147483647 := by rw [hz19]; exact irEc hta hI
          have gz19 := Hd.mk hz19
          have hz19 : z19 = A (ta + 1) (z2).toNat := hz19.trans (a18 _)
          refine lv_istore (lv' := [(9, .int (iI z19)), (8, .int (iI z2)), (7, .int (iI z3)), (0, .ref (q ta)), (1, .int (iI x1)), (2, .int (iI x2)), (3, .int (iI x3)), (4, .int (iI x4)), (5, .int (iI x5)), (6, .int (iI x6))]) hx hb (dk_at dkX8_holds_1 4 rfl) hl (by decide) rfl (fun ls hl => ?_)
          refine lv_iload hx hb (dk_at dkX8_holds_1 5 rfl) (lv_at hl 0 rfl) ?_
          refine lv_bipush (v := iI (-5)) hx hb (dk_at dkX8_holds_1 6 rfl) (by decide +kernel) ?_
          have J162_21 : ∀ (z39 : Int) (A41 : St) (H : Heap) (locs : List Loc) (ls : Array Slot), (1 ≤ z39 ∧ z39 ≤ 64) → (∀ (z : Int) (u : St), (∃ mm1 : Nat, (d_X8_holds_2 (fun z2' z3' A5' => d_X8_holds_1 ta x2 x3 x4 x5 x6 A z u mm1 z2' z3' A5') z2 z u z39 A41)) → r_X8_holds ta x1 x2 x3 x4 x5 x6 A z u) → IK A41 → fk [72, 103] [] A5 A41 → va_P (dC, dI) vwCl (WK cB cI cJ cZ cQ q A41) H → va_S AS s.heap H locs → lv_has ls 10 [(7, .int (iI z39)), (9, .int (iI z19)), (8, .int (iI z2)), (0, .ref (q ta)), (1, .int (iI x1)), (2, .int (iI x2)), (3, .int (iI x3)), (4, .int (iI x4)), (5, .int (iI x5)), (6, .int (iI x6))] → W p l e (headSpec ws_kc_X8_holds ({ frames := 2, cells := 0, slots := 0, locals := 44 } : Room)).room s m [.ref (q ta), .int (iI x1), .int (iI x2), .int (iI x3), .int (iI x4), .int (iI x5), .int (iI x6)].toArray below meth c H locs 0 0 Q (F0 m 162 ls []) := by
            intro z39 A41 H locs ls f42 hk2 hI hj40 hP hS hl
            have gI43 : Hd (IK A41) := Hd.mk hI
            refine lv_iinc (v := iI (z2 + 1)) (lv' := [(8, .int (iI (z2 + 1))), (7, .int (iI z39)), (9, .int (iI z19)), (0, .ref (q ta)), (1, .int (iI x1)), (2, .int (iI x2)), (3, .int (iI x3)), (4, .int (iI x4)), (5, .int (iI x5)), (6, .int (iI x6))]) hx hb (dk_at dkX8_holds_5 8 rfl) hl (k := 2) rfl (i_inc (by omega)) (by decide) rfl (fun ls hl => ?_)
            refine lv_goto (tgt := 10) hx hb (dk_at dkX8_holds_5 9 rfl) (by decide) ?_
            exact ih7 _ (by omega) (z2 + 1) z39 _ _ _ _ (by omega) (by omega) (fun zq uq ⟨mm1, hq⟩ => hk2 _ _ ⟨mm1, (u_d_X8_holds_2 ⟨gI43.out, ⟨f42, hq⟩⟩)⟩) rfl hI (fk.trans (fk.trans (fk.rf) hj4 rfl rfl) hj40 rfl rfl) hP hS (lv_sub hl [0, 1, 3, 4, 5, 6, 7, 8, 9] rfl)
          refine lv_icmp_lt (tgt := 83) hx hb (dk_at dkX8_holds_1 7 rfl) (by decide) (fun c20 => ?_) (fun c20 => ?_)
          · have c20 : z19 < (-5) := (i_lt rz19 ⟨by decide, by decide⟩).mp c20
            refine lv_iload hx hb (dk_at dkX8_holds_2 9 rfl) (lv_at hl 0 rfl) ?_
            refine lv_bipush (v := iI (-6)) hx hb (dk_at dkX8_holds_2 10 rfl) (by decide +kernel) ?_
            refine lv_icmp_ne (tgt := 121) hx hb (dk_at dkX8_holds_2 11 rfl) (by decide) (fun c22 => ?_) (fun c22 => ?_)
            · have c22 : ¬ z19 = (-6) := mt (i_eq rz19 ⟨by decide, by decide⟩).mpr c22
              refine lv_iload hx hb (dk_at dkX8_holds_4 0 rfl) (lv_at hl 2 rfl) ?_
              refine lv_iconst (v := iI 2) hx hb (dk_at dkX8_holds_4 1 rfl) (by decide +kernel) ?_
              refine lv_icmp_ge (tgt := 129) hx hb (dk_at dkX8_holds_4 2 rfl) (by decide) (fun c23 => ?_) (fun c23 => ?_)
              · have c23 : 2 ≤ z3 := (i_le ⟨by decide, by decide⟩ (rb f9 (by decide) (by decide))).mp c23
                refine lv_iinc (v := iI (z3 - 1)) (lv' := [(7, .int (iI (z3 - 1))), (9, .int (iI z19)), (8, .int (iI z2)), (0, .ref (q ta)), (1, .int (iI x1)), (2, .int (iI x2)), (3, .int (iI x3)), (4, .int (iI x4)), (5, .int (iI x5)), (6, .int (iI x6))]) hx hb (dk_at dkX8_holds_4 5 rfl) hl (k := 2) rfl (i_inc (by omega)) (by decide) rfl (fun ls hl => ?_)
                refine lv_aload_n hx hb (dk_at dkX8_holds_4 6 rfl) rfl (lv_at hl 3 rfl) ?_
                refine va_get (D := (dC, dI)) (ci := 8) (v := .ref (q (ta + 2))) (C := RX8) (T := TX8) (N := 3) hx hb hts hiX8 hown hK hP ta (wkE hta) rfl 1 (by decide) (hts _ (List.mem_cons_of_mem _ wkq_1_42)) (fun _ h9 => h9) rfl (dk_at dkX8_holds_4 7 rfl) ?_
                refine lv_iload hx hb (dk_at dkX8_holds_4 8 rfl) (lv_at hl 0 rfl) ?_
                refine lv_iconst (v := iI 1) hx hb (dk_at dkX8_holds_4 9 rfl) (by decide +kernel) ?_
                refine x_subv (v := z3 - 2) hx hb (dk_at dkX8_holds_4 10 rfl) (by omega) ?_
                refine lv_iload hx hb (dk_at dkX8_holds_4 11 rfl) (lv_at hl 1 rfl) ?_
                refine lv_aload_n hx hb (dk_at dkX8_holds_4 12 rfl) rfl (lv_at hl 3 rfl) ?_
                refine va_get (D := (dC, dI)) (ci := 8) (v := .ref (q (ta + 2))) (C := RX8) (T := TX8) (N := 3) hx hb hts hiX8 hown hK hP ta (wkE hta) rfl 1 (by decide) (hts _ (List.mem_cons_of_mem _ wkq_1_42)) (fun _ h9 => h9) rfl (dk_at dkX8_holds_4 13 rfl) ?_
                refine lv_iload hx hb (dk_at dkX8_holds_4 14 rfl) (lv_at hl 0 rfl) ?_
                refine lv_iconst (v := iI 1) hx hb (dk_at dkX8_holds_4 15 rfl) (by decide +kernel) ?_
                refine x_subv (v := z3 - 2) hx hb (dk_at dkX8_holds_5 0 rfl) (by omega) ?_
                refine x_iald (Wf := WK cB cI cJ cZ cQ q) hx hb hK hP (ta + 2) 1 (wkEs hta) rfl (by omega) (by decide) (dk_at dkX8_holds_5 1 rfl) (fun z24 hz24 => ?_)
                have rz24 : (-2147483648 : Int) ≤ z24 ∧ z24 ≤ 2147483647 := by rw [hz24]; exact irEs hta hI
                have gz24 := Hd.mk hz24
                refine lv_aload_n hx hb (dk_at dkX8_holds_5 2 rfl) rfl (lv_at hl 3 rfl) ?_
                refine va_get (D := (dC, dI)) (ci := 8) (v := .ref (q (ta + 2))) (C := RX8) (T := TX8) (N := 3) hx hb hts hiX8 hown hK hP ta (wkE hta) rfl 1 (by decide) (hts _ (List.mem_cons_of_mem _ wkq_1_42)) (fun _ h9 => h9) rfl (dk_at dkX8_holds_5 3 rfl) ?_
                refine lv_iload hx hb (dk_at dkX8_holds_5 4 rfl) (lv_at hl 0 rfl) ?_
                refine x_iald (Wf := WK cB cI cJ cZ cQ q) hx hb hK hP (ta + 2) 1 (wkEs hta) rfl (by omega) (by decide) (dk_at dkX8_holds_5 5 rfl) (fun z25 hz25 => ?_)
                have rz25 : (-2147483648 : Int) ≤ z25 ∧ z25 ≤ 2147483647 := by rw [hz25]; exact irEs hta hI
                have gz25 := Hd.mk hz25
                refine k_callSi (As := [.int (iI z19), .int (iI z24), .int (iI z25)]) (rest := [.int (iI (z3 - 2)), .ref (q (ta + 2))]) ⟨hx, hb, hml, hown, hts⟩ hE (kc_X8_joined l dC dI cB cI cJ cZ cQ aL aS q _ z19 z24 z25 hI rz19 rz24 rz25) (va_cwS 3 hts (goodSk wkq_1_46 wkq_1_47 wkq_1_35 wkq_1_48) rfl rfl rfl (by decide +kernel) ⟨Nat.le_of_ble_eq_true rfl, Nat.le_of_ble_eq_true rfl⟩) hK hDD hA0 hP hS rfl hl.1 (Nat.le_of_ble_eq_true rfl) (dk_at dkX8_holds_5 6 rfl) (fun z26 A27 H locs hw28 hP hS => ?_)
                obtain ⟨rfl, hw28⟩ := hw28
                have ghw28 : q_X8_joined z19 z24 z25 A5 z26 := hw28
                have hw28 := hw28.2
                refine k_iast (Wf := WK cB cI cJ cZ cQ q) hx hb hK hP hDD hS (ta + 2) 1 (wkEs hta) rfl (by omega) (by decide) (dk_at dkX8_holds_5 7 rfl) (wsEs hta) (fun H locs A29 hA29 hP hS => ?_)
                have hI := isEs hta hA29 hI (show (-2147483648 : Int) ≤ z26 ∧ z26 ≤ 2147483647 from hw28)
                exact J162_21 (z3 - 1) _ _ _ _ (by omega) (fun zq uq ⟨mm1, hq⟩ => hk1 _ _ ⟨mm1 + 1, (u_d_X8_holds_1 ⟨gI11.out, ⟨f8, ⟨f9, (Or.inr ⟨c12, (Or.inr ⟨c16, ⟨z19, gz19.out, (Or.inl ⟨c20, (Or.inl ⟨c22, (Or.inl ⟨c23, ⟨z24, gz24.out, ⟨z25, gz25.out, ⟨z26, ghw28, ⟨A29, hA29, hq⟩⟩⟩⟩⟩)⟩)⟩)⟩⟩)⟩)⟩⟩⟩)⟩) hI (fk.da (fk.rf) hA29 (isE.b2 (o := fun b => List.contains [72, 103] (b + 2)) hta rfl rfl)) hP hS (lv_sub hl [0, 1, 2, 3, 4, 5, 6, 7, 8, 9] rfl)
              · have c23 : ¬ 2 ≤ z3 := mt (i_le ⟨by decide, by decide⟩ (rb f9 (by decide) (by decide))).mpr c23
                refine lv_iconst (v := iI 0) hx hb (dk_at dkX8_holds_4 3 rfl) (by decide +kernel) ?_
                exact RET 0 _ _ _ _ _ ⟨hk1 _ _ ⟨0 + 1, (u_d_X8_holds_1 ⟨gI11.out, ⟨f8, ⟨f9, (Or.inr ⟨c12, (Or.inr ⟨c16, ⟨z19, gz19.out, (Or.inl ⟨c20, (Or.inl ⟨c22, (Or.inr ⟨c23, ⟨rfl, rfl⟩⟩)⟩)⟩)⟩⟩)⟩)⟩⟩⟩)⟩, hI, fk.trans (fk.rf) hj4 rfl rfl, ⟨by decide, by decide⟩⟩ hP hS (dk_at dkX8_holds_4 4 rfl)
            · have c22 : z19 = (-6) := (i_eq rz19 ⟨by decide, by decide⟩).mp c22
              refine lv_iload hx hb (dk_at dkX8_holds_2 12 rfl) (lv_at hl 2 rfl) ?_
              refine lv_iconst (v := iI 1) hx hb (dk_at dkX8_holds_2 13 rfl) (by decide +kernel) ?_
              refine lv_icmp_ge (tgt := 98) hx hb (dk_at dkX8_holds_2 14 rfl) (by decide) (fun c30 => ?_) (fun c30 => ?_)
              · have c30 : 1 ≤ z3 := (i_le ⟨by decide, by decide⟩ (rb f9 (by decide) (by decide))).mp c30
                refine lv_aload_n hx hb (dk_at dkX8_holds_3 1 rfl) rfl (lv_at hl 3 rfl) ?_
                refine va_get (D := (dC, dI)) (ci := 8) (v := .ref (q (ta + 2))) (C := RX8) (T := TX8) (N := 3) hx hb hts hiX8 hown hK hP ta (wkE hta) rfl 1 (by decide) (hts _ (List.mem_cons_of_mem _ wkq_1_42)) (fun _ h9 => h9) rfl (dk_at dkX8_holds_3 2 rfl) ?_
                refine lv_iload hx hb (dk_at dkX8_holds_3 3 rfl) (lv_at hl 2 rfl) ?_
                refine lv_iconst (v := iI 1) hx hb (dk_at dkX8_holds_3 4 rfl) (by decide +kernel) ?_
                refine x_subv (v := z3 - 1) hx hb (dk_at dkX8_holds_3 5 rfl) (by omega) ?_
                refine lv_iconst (v := iI 1) hx hb (dk_at dkX8_holds_3 6 rfl) (by decide +kernel) ?_
                refine lv_aload_n hx hb (dk_at dkX8_holds_3 7 rfl) rfl (lv_at hl 3 rfl) ?_
                refine va_get (D := (dC, dI)) (ci := 8) (v := .ref (q (ta + 2))) (C := RX8) (T := TX8) (N := 3) hx hb hts hiX8 hown hK hP ta (wkE hta) rfl 1 (by decide) (hts _ (List.mem_cons_of_mem _ wkq_1_42)) (fun _ h9 => h9) rfl (dk_at dkX8_holds_3 8 rfl) ?_
                refine lv_iload hx hb (dk_at dkX8_holds_3 9 rfl) (lv_at hl 2 rfl) ?_
                refine lv_iconst (v := iI 1) hx hb (dk_at dkX8_holds_3 10 rfl) (by decide +kernel) ?_
                refine x_subv (v := z3 - 1) hx hb (dk_at dkX8_holds_3 11 rfl) (by omega) ?_
                refine x_iald (Wf := WK cB cI cJ cZ cQ q) hx hb hK hP (ta + 2) 1 (wkEs hta) rfl (by omega) (by decide) (dk_at dkX8_holds_3 12 rfl) (fun z31 hz31 => ?_)
                have rz31 : (-2147483648 : Int) ≤ z31 ∧ z31 ≤ 2147483647 := by rw [hz31]; exact irEs hta hI
                have gz31 := Hd.mk hz31
                refine x_subv (v := -z31 + 1) hx hb (dk_at dkX8_holds_3 13 rfl) (by omega) ?_
                refine x_absE (fun z32 gz32 hz32 => ?_)
                refine k_iast (Wf := WK cB cI cJ cZ cQ q) hx hb hK hP hDD hS (ta + 2) 1 (wkEs hta) rfl (by omega) (by decide) (dk_at dkX8_holds_3 14 rfl) (wsEs hta) (fun H locs A33 hA33 hP hS => ?_)
                have hI := isEs hta hA33 hI (show (-2147483648 : Int) ≤ z32 ∧ z32 ≤ 2147483647 from hz32)
                refine lv_goto (tgt := 162) hx hb (dk_at dkX8_holds_3 15 rfl) (by decide) ?_
                exact J162_21 z3 _ _ _ _ (by omega) (fun zq uq ⟨mm1, hq⟩ => hk1 _ _ ⟨mm1 + 1, (u_d_X8_holds_1 ⟨gI11.out, ⟨f8, ⟨f9, (Or.inr ⟨c12, (Or.inr ⟨c16, ⟨z19, gz19.out, (Or.inl ⟨c20, (Or.inr ⟨c22, (Or.inl ⟨c30, ⟨z31, gz31.out, ⟨z32, gz32.out, ⟨A33, hA33, hq⟩⟩⟩⟩)⟩)⟩)⟩⟩)⟩)⟩⟩⟩)⟩) hI (fk.da (fk.rf) hA33 (isE.b2 (o := fun b => List.contains [72, 103] (b + 2)) hta rfl rfl)) hP hS (lv_sub hl [2, 0, 1, 3, 4, 5, 6, 7, 8, 9] rfl)
              · have c30 : ¬ 1 ≤ z3 := mt (i_le ⟨by decide, by decide⟩ (rb f9 (by decide) (by decide))).mpr c30
                refine lv_iconst (v := iI 0) hx hb (dk_at dkX8_holds_2 15 rfl) (by decide +kernel) ?_
                exact RET 0 _ _ _ _ _ ⟨hk1 _ _ ⟨0 + 1, (u_d_X8_holds_1 ⟨gI11.out, ⟨f8, ⟨f9, (Or.inr ⟨c12, (Or.inr ⟨c16, ⟨z19, gz19.out, (Or.inl ⟨c20, (Or.inr ⟨c22, (Or.inr ⟨c30, ⟨rfl, rfl⟩⟩)⟩)⟩)⟩⟩)⟩)⟩⟩⟩)⟩, hI, fk.trans (fk.rf) hj4 rfl rfl, ⟨by decide, by decide⟩⟩ hP hS (dk_at dkX8_holds_3 0 rfl)
          · have c20 : ¬ z19 < (-5) := mt (i_lt rz19 ⟨by decide, by decide⟩).mpr c20
            refine lv_iload hx hb (dk_at dkX8_holds_1 8 rfl) (lv_at hl 2 rfl) ?_
            refine lv_bipush (v := iI 64) hx hb (dk_at dkX8_holds_1 9 rfl) (by decide +kernel) ?_
            refine lv_icmp_lt (tgt := 58) hx hb (dk_at dkX8_holds_1 10 rfl) (by decide) (fun c34 => ?_) (fun c34 => ?_)
            · have c34 : z3 < 64 := (i_lt (rb f9 (by decide) (by decide)) ⟨by decide, by decide⟩).mp c34
              refine lv_aload_n hx hb (dk_at dkX8_holds_1 13 rfl) rfl (lv_at hl 3 rfl) ?_
              refine va_get (D := (dC, dI)) (ci := 8) (v := .ref (q (ta + 2))) (C := RX8) (T := TX8) (N := 3) hx hb hts hiX8 hown hK hP ta (wkE hta) rfl 1 (by decide) (hts _ (List.mem_cons_of_mem _ wkq_1_42)) (fun _ h9 => h9) rfl (dk_at dkX8_holds_1 14 rfl) ?_
              refine lv_iload hx hb (dk_at dkX8_holds_1 15 rfl) (lv_at hl 2 rfl) ?_
              refine lv_iload hx hb (dk_at dkX8_holds_2 0 rfl) (lv_at hl 0 rfl) ?_
              refine lv_iload_n hx hb (dk_at dkX8_holds_2 1 rfl) rfl (lv_at hl 6 rfl) ?_
              refine lv_iload hx hb (dk_at dkX8_holds_2 2 rfl) (lv_at hl 7 rfl) ?_
              refine lv_iload hx hb (dk_at dkX8_holds_2 3 rfl) (lv_at hl 8 rfl) ?_
              refine lv_iload hx hb (dk_at dkX8_holds_2 4 rfl) (lv_at hl 9 rfl) ?_
              refine k_callSi (As := [.int (iI z19), .int (iI x3), .int (iI x4), .int (iI x5), .int (iI x6)]) (rest := [.int (iI z3), .ref (q (ta + 2))]) ⟨hx, hb, hml, hown, hts⟩ hE (kc_X8_value l dC dI cB cI cJ cZ cQ aL aS q _ z19 x3 x4 x5 x6 hI rz19 hx3 hx4 hx5 hx6) (va_cwS 5 hts (goodSk wkq_1_43 wkq_1_44 wkq_1_35 wkq_1_45) rfl rfl rfl (by decide +kernel) ⟨Nat.le_of_ble_eq_true rfl, Nat.le_of_ble_eq_true rfl⟩) hK hDD hA0 hP hS rfl hl.1 (Nat.le_of_ble_eq_true rfl) (dk_at dkX8_holds_2 5 rfl) (fun z35 A36 H locs hw37 hP hS => ?_)
              obtain ⟨rfl, hw37⟩ := hw37
              have ghw37 : q_X8_value z19 x3 x4 x5 x6 A5 z35 := hw37
              have hw37 := hw37.2
              refine k_iast (Wf := WK cB cI cJ cZ cQ q) hx hb hK hP hDD hS (ta + 2) 1 (wkEs hta) rfl (by omega) (by decide) (dk_at dkX8_holds_2 6 rfl) (wsEs hta) (fun H locs A38 hA38 hP hS => ?_)
              have hI := isEs hta hA38 hI (show (-2147483648 : Int) ≤ z35 ∧ z35 ≤ 2147483647 from hw37)
              refine lv_iinc (v := iI (z3 + 1)) (lv' := [(7, .int (iI (z3 + 1))), (9, .int (iI z19)), (8, .int (iI z2)), (0, .ref (q ta)), (1, .int (iI x1)), (2, .int (iI x2)), (3, .int (iI x3)), (4, .int (iI x4)), (5, .int (iI x5)), (6, .int (iI x6))]) hx hb (dk_at dkX8_holds_2 7 rfl) hl (k := 2) rfl (i_inc (by omega)) (by decide) rfl (fun ls hl => ?_)
              refine lv_goto (tgt := 162) hx hb (dk_at dkX8_holds_2 8 rfl) (by decide) ?_
              exact J162_21 (z3 + 1) _ _ _ _ (by omega) (fun zq uq ⟨mm1, hq⟩ => hk1 _ _ ⟨mm1 + 1, (u_d_X8_holds_1 ⟨gI11.out, ⟨f8, ⟨f9, (Or.inr ⟨c12, (Or.inr ⟨c16, ⟨z19, gz19.out, (Or.inr ⟨c20, (Or.inl ⟨c34, ⟨z35, ghw37, ⟨A38, hA38, hq⟩⟩⟩)⟩)⟩⟩)⟩)⟩⟩⟩)⟩) hI (fk.da (fk.rf) hA38 (isE.b2 (o := fun b => List.contains [72, 103] (b + 2)) hta rfl rfl)) hP hS (lv_sub hl [0, 1, 2, 3, 4, 5, 6, 7, 8, 9] rfl)
            · have c34 : ¬ z3 < 64 := mt (i_lt (rb f9 (by decide) (by decide)) ⟨by decide, by decide⟩).mpr c34
              refine lv_iconst (v := iI 0) hx hb (dk_at dkX8_holds_1 11 rfl) (by decide +kernel) ?_
              exact RET 0 _ _ _ _ _ ⟨hk1 _ _ ⟨0 + 1, (u_d_X8_holds_1 ⟨gI11.out, ⟨f8, ⟨f9, (Or.inr ⟨c12, (Or.inr ⟨c16, ⟨z19, gz19.out, (Or.inr ⟨c20, (Or.inr ⟨c34, ⟨rfl, rfl⟩⟩)⟩)⟩⟩)⟩)⟩⟩⟩)⟩, hI, fk.trans (fk.rf) hj4 rfl rfl, ⟨by decide, by decide⟩⟩ hP hS (dk_at dkX8_holds_1 12 rfl)
  exact L10_6 _ z1 0 _ _ _ _ (by omega) (by omega) (fun zq uq ⟨mm1, hq⟩ => (u_r_X8_holds ⟨z1, gz1.out, ⟨mm1, hq⟩⟩)) rfl hI (fk.rf) hP hS (lv_sub hl [0, 1, 2, 3, 4, 5, 6, 7, 8] rfl)

abbrev tr_d_X0_prepareBars_4 (K3 : Int → St → Prop) (z28 : Int) (u : St) (A63 : St) : Prop := ((IK A63) ∧ (K3 (z28 + 1) A63))
def d_X0_prepareBars_4 (K3 : Int → St → Prop) (z28 : Int) (u : St) (A63 : St) : Prop := tr_d_X0_prepareBars_4 K3 z28 u A63
theorem u_d_X0_prepareBars_4 {K3 : Int → St → Prop} {z28 : Int} {u : St} {A63 : St} (h : tr_d_X0_prepareBars_4 K3 z28 u A63) : d_X0_prepareBars_4 K3 z28 u A63 := h
abbrev tr_d_X0_prepareBars_3 (K2 : Int → St → Prop) (ta : Nat) (x2 : Int) (x3 : Int) (z10 : Int) (z27 : Int) (u : St) (K3 : Int → St → Prop) (z28 : Int) (A30 : St) : Prop := ((IK A30) ∧ ((0 ≤ z28 ∧ z28 ≤ 2147483647) ∧ (((88 ≤ z28) ∧ (K2 (z10 + 1) A30)) ∨ ((¬ 88 ≤ z28) ∧ (∃ z37 : Int, z37 = z28 / 11 ∧ (∃ z38 : Int, q_X9_isAt ta z27 z37 A30 z38 ∧ (((z38 = 0) ∧ (d_X0_prepareBars_4 K3 z28 u A30)) ∨ ((¬ z38 = 0) ∧ (∃ z46 : Int, z46 = A30 (ta + 17) (z10).toNat ∧ (∃ z50 : Int, z50 = A30 (ta + 18) (z10).toNat ∧ (∃ z51 : Int, z51 = z28 % 11 ∧ (∃ z52 : Int, ∃ A53 : St, q_X8_holds (ta + 19) z46 z50 x2 z37 x3 z51 A30 z52 A53 ∧ (((z52 = 0) ∧ (d_X0_prepareBars_4 K3 z28 u A53)) ∨ ((¬ z52 = 0) ∧ (∃ z58 : Int, z58 = A53 16 (z28).toNat ∧ (∃ z59 : Int, z59 = oShl 1 z27 ∧ (∃ z60 : Int, z60 = oOr z58 z59 ∧ (∃ A61 : St, A61 = stA A53 16 (z28).toNat z60 ∧ (d_X0_prepareBars_4 K3 z28 u A61)))))))))))))))))))
def d_X0_prepareBars_3 (K2 : Int → St → Prop) (ta : Nat) (x2 : Int) (x3 : Int) (z10 : Int) (z27 : Int) (u : St) : Nat → Int → St → Prop
  | 0, _, _ => False
  | nn9 + 1, z28, A30 => tr_d_X0_prepareBars_3 K2 ta x2 x3 z10 z27 u (fun z28 A30 => d_X0_prepareBars_3 K2 ta x2 x3 z10 z27 u nn9 z28 A30) z28 A30
theorem u_d_X0_prepareBars_3 {K2 : Int → St → Prop} {ta : Nat} {x2 : Int} {x3 : Int} {z10 : Int} {z27 : Int} {u : St} {nn9 : Nat} {z28 : Int} {A30 : St} (h : tr_d_X0_prepareBars_3 K2 ta x2 x3 z10 z27 u (fun z28 A30 => d_X0_prepareBars_3 K2 ta x2 x3 z10 z27 u nn9 z28 A30) z28 A30) : d_X0_prepareBars_3 K2 ta x2 x3 z10 z27 u (nn9 + 1) z28 A30 := h
abbrev tr_d_X0_prepareBars_2 (ta : Nat) (x2 : Int) (x3 : Int) (u : St) (K2 : Int → St → Prop) (z10 : Int) (A12 : St) : Prop := ((IK A12) ∧ ((0 ≤ z10 ∧ z10 ≤ 2147483647) ∧ (∃ z23 : Int, z23 = A12 (ta + 1) (7 : Int).toNat ∧ (((z23 ≤ z10) ∧ (u = A12)) ∨ ((¬ z23 ≤ z10) ∧ (∃ z27 : Int, z27 = A12 (ta + 16) (z10).toNat ∧ (∃ nn9 : Nat, d_X0_prepareBars_3 K2 ta x2 x3 z10 z27 u nn9 0 A12)))))))
def d_X0_prepareBars_2 (ta : Nat) (x2 : Int) (x3 : Int) (u : St) : Nat → Int → St → Prop
  | 0, _, _ => False
  | nn9 + 1, z10, A12 => tr_d_X0_prepareBars_2 ta x2 x3 u (fun z10 A12 => d_X0_prepareBars_2 ta x2 x3 u nn9 z10 A12) z10 A12
theorem u_d_X0_prepareBars_2 {ta : Nat} {x2 : Int} {x3 : Int} {u : St} {nn9 : Nat} {z10 : Int} {A12 : St} (h : tr_d_X0_prepareBars_2 ta x2 x3 u (fun z10 A12 => d_X0_prepareBars_2 ta x2 x3 u nn9 z10 A12) z10 A12) : d_X0_prepareBars_2 ta x2 x3 u (nn9 + 1) z10 A12 := h
abbrev tr_d_X0_prepareBars_1 (ta : Nat) (x2 : Int) (x3 : Int) (u : St) (K1 : Int → St → Prop) (z1 : Int) (A3 : St) : Prop := ((IK A3) ∧ ((0 ≤ z1 ∧ z1 ≤ 2147483647) ∧ (((88 ≤ z1) ∧ (∃ nn9 : Nat, d_X0_prepareBars_2 ta x2 x3 u nn9 0 A3)) ∨ ((¬ 88 ≤ z1) ∧ (∃ A65 : St, A65 = stA A3 16 (z1).toNat 0 ∧ (K1 (z1 + 1) A65))))))
def d_X0_prepareBars_1 (ta : Nat) (x2 : Int) (x3 : Int) (u : St) : Nat → Int → St → Prop
  | 0, _, _ => False
  | nn9 + 1, z1, A3 => tr_d_X0_prepareBars_1 ta x2 x3 u (fun z1 A3 => d_X0_prepareBars_1 ta x2 x3 u nn9 z1 A3) z1 A3
theorem u_d_X0_prepareBars_1 {ta : Nat} {x2 : Int} {x3 : Int} {u : St} {nn9 : Nat} {z1 : Int} {A3 : St} (h : tr_d_X0_prepareBars_1 ta x2 x3 u (fun z1 A3 => d_X0_prepareBars_1 ta x2 x3 u nn9 z1 A3) z1 A3) : d_X0_prepareBars_1 ta x2 x3 u (nn9 + 1) z1 A3 := h
abbrev tr_r_X0_prepareBars (ta : Nat) (x2 : Int) (x3 : Int) (A : St) (u : St) : Prop := (∃ nn9 : Nat, d_X0_prepareBars_1 ta x2 x3 u nn9 0 A)
def r_X0_prepareBars (ta : Nat) (x2 : Int) (x3 : Int) (A : St) (u : St) : Prop := tr_r_X0_prepareBars ta x2 x3 A u
theorem u_r_X0_prepareBars {ta : Nat} {x2 : Int} {x3 : Int} {A : St} {u : St} (h : tr_r_X0_prepareBars ta x2 x3 A u) : r_X0_prepareBars ta x2 x3 A u := h
def q_X0_prepareBars (ta : Nat) (x2 : Int) (x3 : Int) (A : St) (u : St) : Prop := r_X0_prepareBars ta x2 x3 A u ∧ IK u ∧ fk [16, 72, 103] [] A u ∧ (True)
def ws_kc_X0_prepareBars : List Cond := .code yX0_prepareBars cX0_prepareBars 8 none :: WY
set_option maxHeartbeats 4000000 in
set_option maxRecDepth 100000 in
theorem kc_X0_prepareBars (l : Launch) (dC : Nat → ClassId) (dI : Nat → Nat → Nat) (cB cI cJ cZ cQ : ClassId) (aL aS : Nat) (q : Nat → Nat) (A : St) (ta : Nat) (x2 x3 : Int) (hI : IK A) (hta : isT ta) (hx2 : (-2147483648 : Int) ≤ x2 ∧ x2 ≤ 2147483647) (hx3 : (-2147483648 : Int) ≤ x3 ∧ x3 ≤ 2147483647) : KMv l yX0_prepareBars ws_kc_X0_prepareBars ({ frames := 3, cells := 0, slots := 0, locals := 73 } : Room) aL aS (dC, dI) (tyA cB cI cJ cZ cQ) (WK cB cI cJ cZ cQ q) A [.ref (q 6), .ref (q ta), .int (iI x2), .int (iI x3)] (fun u => r_X0_prepareBars ta x2 x3 A u ∧ IK u ∧ fk [16, 72, 103] [] A u ∧ (True)) := by
  refine k_metv (cc := cX0_prepareBars) (maxL := 8) WK_adr (plainFor_of_name (by decide +kernel)) rfl (Nat.le_of_ble_eq_true rfl) (fun p e s m below meth c Q AS ls hx hb hml hown hts hK hDD hA0 hE RET H locs hP hS hl => ?_)
  have hown : s.vm.findClass RX0 = some m.cls := hown
  have hl : lv_has ls 8 [(0, .ref (q 6)), (1, .ref (q ta)), (2, .int (iI x2)), (3, .int (iI x3))] := hl
  have hiX9 : ∀ w ∈ u_ws RX9 TX9 16, w ∈ ws_kc_X0_prepareBars := fun w h => List.mem_cons_of_mem _ (wy_layX9 w h)
  have hiX0 : ∀ w ∈ u_ws RX0 TX0 17, w ∈ ws_kc_X0_prepareBars := fun w h => List.mem_cons_of_mem _ (wy_layX0 w h)
  refine lv_iconst (v := iI 0) hx hb (dk_at dkX0_prepareBars_0 0 rfl) (by decide +kernel) ?_
  refine lv_istore (lv' := [(4, .int (iI 0)), (0, .ref (q 6)), (1, .ref (q ta)), (2, .int (iI x2)), (3, .int (iI x3))]) hx hb (dk_at dkX0_prepareBars_0 1 rfl) hl (by decide) rfl (fun ls hl => ?_)
  have L3_4 : ∀ (n7 : Nat) (z1 : Int) (A3 : St) (H : Heap) (locs : List Loc) (ls : Array Slot), (0 ≤ z1 ∧ z1 ≤ 2147483647) → (∀ (u : St), (∃ mm1 : Nat, (d_X0_prepareBars_1 ta x2 x3 u mm1 z1 A3)) → r_X0_prepareBars ta x2 x3 A u) → ((89 - z1).toNat = n7) → IK A3 → fk [16] [] A A3 → va_P (dC, dI) vwCl (WK cB cI cJ cZ cQ q A3) H → va_S AS s.heap H locs → lv_has ls 8 [(4, .int (iI z1)), (0, .ref (q 6)), (1, .ref (q ta)), (2, .int (iI x2)), (3, .int (iI x3))] → W p l e (headSpec ws_kc_X0_prepareBars ({ frames := 3, cells := 0, slots := 0, locals := 73 } : Room)).room s m [.ref (q 6), .ref (q ta), .int (iI x2), .int (iI x3)].toArray below meth c H locs 0 0 Q (F0 m 3 ls []) := by
    intro n7
    induction n7 using Nat.strongRecOn with
    | ind n7 ih5 =>
      intro z1 A3 H locs ls f6 hk1 hn7 hI hj2 hP hS hl
      have gI8 : Hd (IK A3) := Hd.mk hI
      refine lv_iload hx hb (dk_at dkX0_prepareBars_0 2 rfl) (lv_at hl 0 rfl) ?_
      refine lv_bipush (v := iI 88) hx hb (dk_at dkX0_prepareBars_0 3 rfl) (by decide +kernel) ?_
      refine lv_icmp_ge (tgt := 24) hx hb (dk_at dkX0_prepareBars_0 4 rfl) (by decide) (fun c9 => ?_) (fun c9 => ?_)
      · have c9 : 88 ≤ z1 := (i_le ⟨by decide, by decide⟩ (rb f6 (by decide) (by decide))).mp c9
        refine lv_iconst (v := iI 0) hx hb (dk_at dkX0_prepareBars_0 12 rfl) (by decide +kernel) ?_
        refine lv_istore (lv' := [(4, .int (iI 0)), (0, .ref (q 6)), (1, .ref (q ta)), (2, .int (iI x2)), (3, .int (iI x3))]) hx hb (dk_at dkX0_prepareBars_0 13 rfl) hl (by decide) rfl (fun ls hl => ?_)
        have L27_13 : ∀ (n19 : Nat) (z10 : Int) (A12 : St) (H : Heap) (locs : List Loc) (ls : Array Slot), (0 ≤ z10 ∧ z10 ≤ 2147483647) → (∀ (u : St), (∃ mm1 mm2 : Nat, (d_X0_prepareBars_2 ta x2 x3 u mm2 z10 A12)) → r_X0_prepareBars ta x2 x3 A u) → ((7 - z10).toNat = n19) → IK A12 → fk [16, 72, 103] [] A3 A12 → va_P (dC, dI) vwCl (WK cB cI cJ cZ cQ q A12) H → va_S AS s.heap H locs → lv_has ls 8 [(4, .int (iI z10)), (0, .ref (q 6)), (1, .ref (q ta)), (2, .int (iI x2)), (3, .int (iI x3))] → W p l e (headSpec ws_kc_X0_prepareBars ({ frames := 3, cells := 0, slots := 0, locals := 73 } : Room)).room s m [.ref (q 6), .ref (q ta), .int (iI x2), .int (iI x3)].toArray below meth c H locs 0 0 Q (F0 m 27 ls []) := by
          intro n19
          induction n19 using Nat.strongRecOn with
          | ind n19 ih14 =>
            intro z10 A12 H locs ls f15 hk2 hn19 hI hj11 hP hS hl
            have gI20 : Hd (IK A12) := Hd.mk hI
            refine lv_iload hx hb (dk_at dkX0_prepareBars_0 14 rfl) (lv_at hl 0 rfl) ?_
            refine lv_aload_n hx hb (dk_at dkX0_prepareBars_0 15 rfl) rfl (lv_at hl 2 rfl) ?_
            refine va_get (D := (dC, dI)) (ci := 9) (v := .ref (q (ta + 1))) (C := RX9) (T := TX9) (N := 16) hx hb hts hiX9 hown hK hP ta (wkT hta) rfl 0 (by decide) (hts _ (List.mem_cons_of_mem _ wkq_0_1)) (fun _ h9 => h9) rfl (dk_at dkX0_prepareBars_1 0 rfl) ?_
            refine lv_bipush (v := iI 7) hx hb (dk_at dkX0_prepareBars_1 1 rfl) (by decide +kernel) ?_
            have a22 : ∀ k, A3 (ta + 1) k = A (ta + 1) k := fun k => hj2 (ta + 1) k (isT.b2 (o := fun b => List.contains [16] (b + 1)) hta rfl rfl) (isT.b2 (o := fun b => fin2 [] (b + 1) k) hta rfl rfl)
            have a21 : ∀ k, A12 (ta + 1) k = A (ta + 1) k := fun k => (hj11 (ta + 1) k (isT.b2 (o := fun b => List.contains [16, 72, 103] (b + 1)) hta rfl rfl) (isT.b2 (o := fun b => fin2 [] (b + 1) k) hta rfl rfl)).trans (a22 k)
            refine x_iald (Wf := WK cB cI cJ cZ cQ q) hx hb hK hP (ta + 1) 1 (wkTc hta) rfl (by decide) (by decide) (dk_at dkX0_prepareBars_1 2 rfl) (fun z23 hz23 => ?_)
            have rz23 : (0 : Int) ≤ z23 ∧ z23 ≤ 6 := by rw [hz23]; exact irTc7 hta hI
            have gz23 := Hd.mk hz23
            have hz23 : z23 = A (ta + 1) (7 : Int).toNat := hz23.trans (a21 _)
            refine lv_icmp_ge (tgt := 135) hx hb (dk_at dkX0_prepareBars_1 3 rfl) (by decide) (fun c24 => ?_) (fun c24 => ?_)
            · have c24 : z23 ≤ z10 := (i_le (rb rz23 (by decide) (by decide)) (rb f15 (by decide) (by decide))).mp c24
              exact RET _ _ _ _ _ ⟨hk2 _ ⟨0, 0 + 1, (u_d_X0_prepareBars_2 ⟨gI20.out, ⟨f15, ⟨z23, gz23.out, (Or.inl ⟨c24, rfl⟩)⟩⟩⟩)⟩, hI, fk.trans (fk.trans (fk.rf) hj2 rfl rfl) hj11 rfl rfl, trivial⟩ hP hS (dk_at dkX0_prepareBars_4 7 rfl)
            · have c24 : ¬ z23 ≤ z10 := mt (i_le (rb rz23 (by decide) (by decide)) (rb f15 (by decide) (by decide))).mpr c24
              refine lv_aload_n hx hb (dk_at dkX0_prepareBars_1 4 rfl) rfl (lv_at hl 2 rfl) ?_
              refine va_get (D := (dC, dI)) (ci := 9) (v := .ref (q (ta + 16))) (C := RX9) (T := TX9) (N := 16) hx hb hts hiX9 hown hK hP ta (wkT hta) rfl 10 (by decide) (hts _ (List.mem_cons_of_mem _ wkq_1_28)) (fun _ h9 => h9) rfl (dk_at dkX0_prepareBars_1 5 rfl) ?_
              refine lv_iload hx hb (dk_at dkX0_prepareBars_1 6 rfl) (lv_at hl 0 rfl) ?_
              have a26 : ∀ k, A3 (ta + 16) k = A (ta + 16) k := fun k => hj2 (ta + 16) k (isT.b2 (o := fun b => List.contains [16] (b + 16)) hta rfl rfl) (isT.b2 (o := fun b => fin2 [] (b + 16) k) hta rfl rfl)
              have a25 : ∀ k, A12 (ta + 16) k = A (ta + 16) k := fun k => (hj11 (ta + 16) k (isT.b2 (o := fun b => List.contains [16, 72, 103] (b + 16)) hta rfl rfl) (isT.b2 (o := fun b => fin2 [] (b + 16) k) hta rfl rfl)).trans (a26 k)
              refine x_iald (Wf := WK cB cI cJ cZ cQ q) hx hb hK hP (ta + 16) 1 (wkTbd hta) rfl (by omega) (by decide) (dk_at dkX0_prepareBars_1 7 rfl) (fun z27 hz27 => ?_)
              have rz27 : (-2147483648 : Int) ≤ z27 ∧ z27 ≤ 2147483647 := by rw [hz27]; exact irTbd hta hI
              have gz27 := Hd.mk hz27
              have hz27 : z27 = A (ta + 16) (z10).toNat := hz27.trans (a25 _)
              refine lv_istore (lv' := [(5, .int (iI z27)), (4, .int (iI z10)), (0, .ref (q 6)), (1, .ref (q ta)), (2, .int (iI x2)), (3, .int (iI x3))]) hx hb (dk_at dkX0_prepareBars_1 8 rfl) hl (by decide) rfl (fun ls hl => ?_)
              refine lv_iconst (v := iI 0) hx hb (dk_at dkX0_prepareBars_1 9 rfl) (by decide +kernel) ?_
              refine lv_istore (lv' := [(6, .int (iI 0)), (5, .int (iI z27)), (4, .int (iI z10)), (0, .ref (q 6)), (1, .ref (q ta)), (2, .int (iI x2)), (3, .int (iI x3))]) hx hb (dk_at dkX0_prepareBars_1 10 rfl) hl (by decide) rfl (fun ls hl => ?_)
              have L51_31 : ∀ (n34 : Nat) (z28 : Int) (A30 : St) (H : Heap) (locs : List Loc) (ls : Array Slot), (0 ≤ z28 ∧ z28 ≤ 2147483647) → (∀ (u : St), (∃ mm1 mm2 mm3 : Nat, (d_X0_prepareBars_3 (fun z10' A12' => d_X0_prepareBars_2 ta x2 x3 u mm2 z10' A12') ta x2 x3 z10 z27 u mm3 z28 A30)) → r_X0_prepareBars ta x2 x3 A u) → ((89 - z28).toNat = n34) → IK A30 → fk [16, 72, 103] [] A12 A30 → va_P (dC, dI) vwCl (WK cB cI cJ cZ cQ q A30) H → va_S AS s.heap H locs → lv_has ls 8 [(6, .int (iI z28)), (5, .int (iI z27)), (4, .int (iI z10)), (0, .ref (q 6)), (1, .ref (q ta)), (2, .int (iI x2)), (3, .int (iI x3))] → W p l e (headSpec ws_kc_X0_prepareBars ({ frames := 3, cells := 0, slots := 0, locals := 73 } : Room)).room s m [.ref (q 6), .ref (q ta), .int (iI x2), .int (iI x3)].toArray below meth c H locs 0 0 Q (F0 m 51 ls []) := by
                intro n34
                induction n34 using Nat.strongRecOn with
                | ind n34 ih32 =>
                  intro z28 A30 H locs ls f33 hk3 hn34 hI hj29 hP hS hl
                  have gI35 : Hd (IK A30) := Hd.mk hI
                  refine lv_iload hx hb (dk_at dkX0_prepareBars_1 11 rfl) (lv_at hl 0 rfl) ?_
                  refine lv_bipush (v := iI 88) hx hb (dk_at dkX0_prepareBars_1 12 rfl) (by decide +kernel) ?_
                  refine lv_icmp_ge (tgt := 129) hx hb (dk_at dkX0_prepareBars_1 13 rfl) (by decide) (fun c36 => ?_) (fun c36 => ?_)
                  · have c36 : 88 ≤ z28 := (i_le ⟨by decide, by decide⟩ (rb f33 (by decide) (by decide))).mp c36
                    refine lv_iinc (v := iI (z10 + 1)) (lv' := [(4, .int (iI (z10 + 1))), (6, .int (iI z28)), (5, .int (iI z27)), (0, .ref (q 6)), (1, .ref (q ta)), (2, .int (iI x2)), (3, .int (iI x3))]) hx hb (dk_at dkX0_prepareBars_4 5 rfl) hl (k := 2) rfl (i_inc (by omega)) (by decide) rfl (fun ls hl => ?_)
                    refine lv_goto (tgt := 27) hx hb (dk_at dkX0_prepareBars_4 6 rfl) (by decide) ?_
                    exact ih14 _ (by omega) (z10 + 1) _ _ _ _ (by omega) (fun uq ⟨mm1, mm2, hq⟩ => hk3 _ ⟨mm1, mm2, 0 + 1, (u_d_X0_prepareBars_3 ⟨gI35.out, ⟨f33, (Or.inl ⟨c36, hq⟩)⟩⟩)⟩) rfl hI (fk.trans (fk.trans (fk.rf) hj11 rfl rfl) hj29 rfl rfl) hP hS (lv_sub hl [0, 3, 4, 5, 6] rfl)
                  · have c36 : ¬ 88 ≤ z28 := mt (i_le ⟨by decide, by decide⟩ (rb f33 (by decide) (by decide))).mpr c36
                    refine lv_iload hx hb (dk_at dkX0_prepareBars_1 14 rfl) (lv_at hl 0 rfl) ?_
                    refine lv_bipush (v := iI 11) hx hb (dk_at dkX0_prepareBars_1 15 rfl) (by decide +kernel) ?_
                    refine x_div hx hb (dk_at dkX0_prepareBars_2 0 rfl) (by omega) (by omega) (fun z37 hz37 hz37b => ?_)
                    refine lv_istore (lv' := [(7, .int (iI z37)), (6, .int (iI z28)), (5, .int (iI z27)), (4, .int (iI z10)), (0, .ref (q 6)), (1, .ref (q ta)), (2, .int (iI x2)), (3, .int (iI x3))]) hx hb (dk_at dkX0_prepareBars_2 1 rfl) hl (by decide) rfl (fun ls hl => ?_)
                    refine lv_aload_n hx hb (dk_at dkX0_prepareBars_2 2 rfl) rfl (lv_at hl 5 rfl) ?_
                    refine lv_iload hx hb (dk_at dkX0_prepareBars_2 3 rfl) (lv_at hl 2 rfl) ?_
                    refine lv_iload hx hb (dk_at dkX0_prepareBars_2 4 rfl) (lv_at hl 0 rfl) ?_
                    refine k_calli (As := [.int (iI z27), .int (iI z37)]) (rest := []) ⟨hx, hb, hml, hown, hts⟩ hE (kc_X9_isAt l dC dI cB cI cJ cZ cQ aL aS q _ ta z27 z37 hI hta rz27 (by omega)) (cwV 2 hts (goodVk wkq_1_10 wkq_1_11 wkq_1_12 wkq_0_6 wkq_1_13) rfl rfl rfl (by decide +kernel) ⟨Nat.le_of_ble_eq_true rfl, Nat.le_of_ble_eq_true rfl⟩) hK hDD hA0 hP hS ta 9 (wkT hta) rfl rfl hl.1 (Nat.le_of_ble_eq_true rfl) (dk_at dkX0_prepareBars_2 5 rfl) (fun z38 A39 H locs hw40 hP hS => ?_)
                    obtain ⟨rfl, hw40⟩ := hw40
                    have ghw40 : q_X9_isAt ta z27 z37 A30 z38 := hw40
                    have hw40 := hw40.2
                    have rz38 : 0 ≤ z38 ∧ z38 ≤ 1 := hw40.1
                    have hw40 := hw40.2
                    have J123_42 : ∀ (A63 : St) (H : Heap) (locs : List Loc) (ls : Array Slot), (∀ (u : St), (∃ mm1 mm2 mm3 : Nat, (d_X0_prepareBars_4 (fun z28' A30' => d_X0_prepareBars_3 (fun z10' A12' => d_X0_prepareBars_2 ta x2 x3 u mm2 z10' A12') ta x2 x3 z10 z27 u mm3 z28' A30') z28 u A63)) → r_X0_prepareBars ta x2 x3 A u) → IK A63 → fk [16, 72, 103] [] A30 A63 → va_P (dC, dI) vwCl (WK cB cI cJ cZ cQ q A63) H → va_S AS s.heap H locs → lv_has ls 8 [(7, .int (iI z37)), (6, .int (iI z28)), (5, .int (iI z27)), (4, .int (iI z10)), (0, .ref (q 6)), (1, .ref (q ta)), (2, .int (iI x2)), (3, .int (iI x3))] → W p l e (headSpec ws_kc_X0_prepareBars ({ frames := 3, cells := 0, slots := 0, locals := 73 } : Room)).room s m [.ref (q 6), .ref (q ta), .int (iI x2), .int (iI x3)].toArray below meth c H locs 0 0 Q (F0 m 123 ls []) := by
                      intro A63 H locs ls hk4 hI hj62 hP hS hl
                      have gI64 : Hd (IK A63) := Hd.mk hI
                      clear hw40
                      refine lv_iinc (v := iI (z28 + 1)) (lv' := [(6, .int (iI (z28 + 1))), (7, .int (iI z37)), (5, .int (iI z27)), (4, .int (iI z10)), (0, .ref (q 6)), (1, .ref (q ta)), (2, .int (iI x2)), (3, .int (iI x3))]) hx hb (dk_at dkX0_prepareBars_4 3 rfl) hl (k := 1) rfl (i_inc (by omega)) (by decide) rfl (fun ls hl => ?_)
                      refine lv_goto (tgt := 51) hx hb (dk_at dkX0_prepareBars_4 4 rfl) (by decide) ?_
                      exact ih32 _ (by omega) (z28 + 1) _ _ _ _ (by omega) (fun uq ⟨mm1, mm2, mm3, hq⟩ => hk4 _ ⟨mm1, mm2, mm3, (u_d_X0_prepareBars_4 ⟨gI64.out, hq⟩)⟩) rfl hI (fk.trans (fk.trans (fk.rf) hj29 rfl rfl) hj62 rfl rfl) hP hS (lv_sub hl [0, 2, 3, 4, 5, 6, 7] rfl)
                    refine lv_if_eq (tgt := 123) hx hb (dk_at dkX0_prepareBars_2 6 rfl) (by decide) (fun c41 => ?_) (fun c41 => ?_)
                    · have c41 : z38 = 0 := (i_eq0 (rb rz38 (by decide) (by decide))).mp c41
                      clear hw40
                      exact J123_42 _ _ _ _ (fun uq ⟨mm1, mm2, mm3, hq⟩ => hk3 _ ⟨mm1, mm2, mm3 + 1, (u_d_X0_prepareBars_3 ⟨gI35.out, ⟨f33, (Or.inr ⟨c36, ⟨z37, hz37, ⟨z38, ghw40, (Or.inl ⟨c41, hq⟩)⟩⟩⟩)⟩⟩)⟩) hI (fk.rf) hP hS (lv_sub hl [0, 1, 2, 3, 4, 5, 6, 7] rfl)
                    · have c41 : ¬ z38 = 0 := mt (i_eq0 (rb rz38 (by decide) (by decide))).mpr c41
                      have hw40b := hw40 (by omega)
                      clear hw40
                      refine lv_aload_n hx hb (dk_at dkX0_prepareBars_2 7 rfl) rfl (lv_at hl 5 rfl) ?_
                      refine va_get (D := (dC, dI)) (ci := 9) (v := .ref (q (ta + 19))) (C := RX9) (T := TX9) (N := 16) hx hb hts hiX9 hown hK hP ta (wkT hta) rfl 13 (by decide) (hts _ (List.mem_cons_of_mem _ wkq_1_29)) (fun _ h9 => h9) rfl (dk_at dkX0_prepareBars_2 8 rfl) ?_
                      refine lv_aload_n hx hb (dk_at dkX0_prepareBars_2 9 rfl) rfl (lv_at hl 5 rfl) ?_
                      refine va_get (D := (dC, dI)) (ci := 9) (v := .ref (q (ta + 17))) (C := RX9) (T := TX9) (N := 16) hx hb hts hiX9 hown hK hP ta (wkT hta) rfl 11 (by decide) (hts _ (List.mem_cons_of_mem _ wkq_1_30)) (fun _ h9 => h9) rfl (dk_at dkX0_prepareBars_2 10 rfl) ?_
                      refine lv_iload hx hb (dk_at dkX0_prepareBars_2 11 rfl) (lv_at hl 3 rfl) ?_
                      have a45 : ∀ k, A3 (ta + 17) k = A (ta + 17) k := fun k => hj2 (ta + 17) k (isT.b2 (o := fun b => List.contains [16] (b + 17)) hta rfl rfl) (isT.b2 (o := fun b => fin2 [] (b + 17) k) hta rfl rfl)
                      have a44 : ∀ k, A12 (ta + 17) k = A (ta + 17) k := fun k => (hj11 (ta + 17) k (isT.b2 (o := fun b => List.contains [16, 72, 103] (b + 17)) hta rfl rfl) (isT.b2 (o := fun b => fin2 [] (b + 17) k) hta rfl rfl)).trans (a45 k)
                      have a43 : ∀ k, A30 (ta + 17) k = A (ta + 17) k := fun k => (hj29 (ta + 17) k (isT.b2 (o := fun b => List.contains [16, 72, 103] (b + 17)) hta rfl rfl) (isT.b2 (o := fun b => fin2 [] (b + 17) k) hta rfl rfl)).trans (a44 k)
                      refine x_iald (Wf := WK cB cI cJ cZ cQ q) hx hb hK hP (ta + 17) 1 (wkTbf hta) rfl (by omega) (by decide) (dk_at dkX0_prepareBars_2 12 rfl) (fun z46 hz46 => ?_)
                      have rz46 : (-2147483648 : Int) ≤ z46 ∧ z46 ≤ 2147483647 := by rw [hz46]; exact irTbf hta hI
                      have gz46 := Hd.mk hz46
                      have hz46 : z46 = A (ta + 17) (z10).toNat := hz46.trans (a43 _)
                      refine lv_aload_n hx hb (dk_at dkX0_prepareBars_2 13 rfl) rfl (lv_at hl 5 rfl) ?_
                      refine va_get (D := (dC, dI)) (ci := 9) (v := .ref (q (ta + 18))) (C := RX9) (T := TX9) (N := 16) hx hb hts hiX9 hown hK hP ta (wkT hta) rfl 12 (by decide) (hts _ (List.mem_cons_of_mem _ wkq_1_31)) (fun _ h9 => h9) rfl (dk_at dkX0_prepareBars_2 14 rfl) ?_
                      refine lv_iload hx hb (dk_at dkX0_prepareBars_2 15 rfl) (lv_at hl 3 rfl) ?_
                      have a49 : ∀ k, A3 (ta + 18) k = A (ta + 18) k := fun k => hj2 (ta + 18) k (isT.b2 (o := fun b => List.contains [16] (b + 18)) hta rfl rfl) (isT.b2 (o := fun b => fin2 [] (b + 18) k) hta rfl rfl)
                      have a48 : ∀ k, A12 (ta + 18) k = A (ta + 18) k := fun k => (hj11 (ta + 18) k (isT.b2 (o := fun b => List.contains [16, 72, 103] (b + 18)) hta rfl rfl) (isT.b2 (o := fun b => fin2 [] (b + 18) k) hta rfl rfl)).trans (a49 k)
                      have a47 : ∀ k, A30 (ta + 18) k = A (ta + 18) k := fun k => (hj29 (ta + 18) k (isT.b2 (o := fun b => List.contains [16, 72, 103] (b + 18)) hta rfl rfl) (isT.b2 (o := fun b => fin2 [] (b + 18) k) hta rfl rfl)).trans (a48 k)
                      refine x_iald (Wf := WK cB cI cJ cZ cQ q) hx hb hK hP (ta + 18) 1 (wkTbt hta) rfl (by omega) (by decide) (dk_at dkX0_prepareBars_3 0 rfl) (fun z50 hz50 => ?_)
                      have rz50 : (-2147483648 : Int) ≤ z50 ∧ z50 ≤ 2147483647 := by rw [hz50]; exact irTbt hta hI
                      have gz50 := Hd.mk hz50
                      have hz50 : z50 = A (ta + 18) (z10).toNat := hz50.trans (a47 _)
                      refine lv_iload_n hx hb (dk_at dkX0_prepareBars_3 1 rfl) rfl (lv_at hl 6 rfl) ?_
                      refine lv_iload hx hb (dk_at dkX0_prepareBars_3 2 rfl) (lv_at hl 0 rfl) ?_
                      refine lv_iload_n hx hb (dk_at dkX0_prepareBars_3 3 rfl) rfl (lv_at hl 7 rfl) ?_
                      refine lv_iload hx hb (dk_at dkX0_prepareBars_3 4 rfl) (lv_at hl 1 rfl) ?_
                      refine lv_bipush (v := iI 11) hx hb (dk_at dkX0_prepareBars_3 5 rfl) (by decide +kernel) ?_
                      refine x_rem hx hb (dk_at dkX0_prepareBars_3 6 rfl) (by omega) (by omega) (fun z51 hz51 hz51b => ?_)
                      have gz51 := Hd.mk hz51
                      clear hz51
                      refine k_calli (As := [.int (iI z46), .int (iI z50), .int (iI x2), .int (iI z37), .int (iI x3), .int (iI z51)]) (rest := []) ⟨hx, hb, hml, hown, hts⟩ hE (kc_X8_holds l dC dI cB cI cJ cZ cQ aL aS q _ (ta + 19) z46 z50 x2 z37 x3 z51 hI hta.e rz46 rz50 hx2 (by omega) hx3 (by omega)) (cwV 6 hts (goodVk wkq_1_32 wkq_1_33 wkq_1_34 wkq_1_35 wkq_1_36) rfl rfl rfl (by decide +kernel) ⟨Nat.le_of_ble_eq_true rfl, Nat.le_of_ble_eq_true rfl⟩) hK hDD hA0 hP hS (ta + 19) 8 (wkE hta.e) rfl rfl hl.1 (Nat.le_of_ble_eq_true rfl) (dk_at dkX0_prepareBars_3 7 rfl) (fun z52 A53 H locs hw54 hP hS => ?_)
                      have ghw54 : q_X8_holds (ta + 19) z46 z50 x2 z37 x3 z51 A30 z52 A53 := hw54
                      obtain ⟨_, hI, hf55, hw54⟩ := hw54
                      refine lv_if_eq (tgt := 123) hx hb (dk_at dkX0_prepareBars_3 8 rfl) (by decide) (fun c56 => ?_) (fun c56 => ?_)
                      · have c56 : z52 = 0 := (i_eq0 (rb hw54 (by decide) (by decide))).mp c56
                        exact J123_42 _ _ _ _ (fun uq ⟨mm1, mm2, mm3, hq⟩ => hk3 _ ⟨mm1, mm2, mm3 + 1, (u_d_X0_prepareBars_3 ⟨gI35.out, ⟨f33, (Or.inr ⟨c36, ⟨z37, hz37, ⟨z38, ghw40, (Or.inr ⟨c41, ⟨z46, gz46.out, ⟨z50, gz50.out, ⟨z51, gz51.out, ⟨z52, A53, ghw54, (Or.inl ⟨c56, hq⟩)⟩⟩⟩⟩⟩)⟩⟩⟩)⟩⟩)⟩) hI (fk.trans (fk.rf) hf55 rfl rfl) hP hS (lv_sub hl [0, 1, 2, 3, 4, 5, 6, 7] rfl)
                      · have c56 : ¬ z52 = 0 := mt (i_eq0 (rb hw54 (by decide) (by decide))).mpr c56
                        refine lv_aload_n hx hb (dk_at dkX0_prepareBars_3 9 rfl) rfl (lv_at hl 4 rfl) ?_
                        refine va_get (D := (dC, dI)) (ci := 0) (v := .ref (q 16)) (C := RX0) (T := TX0) (N := 17) hx hb hts hiX0 hown hK hP 6 (wkAL) rfl 5 (by decide) (hts _ (List.mem_cons_of_mem _ wkq_1_27)) (fun _ h9 => h9) rfl (dk_at dkX0_prepareBars_3 10 rfl) ?_
                        refine lv_iload hx hb (dk_at dkX0_prepareBars_3 11 rfl) (lv_at hl 1 rfl) ?_
                        refine lv_dup2_11 hx hb (dk_at dkX0_prepareBars_3 12 rfl) rfl rfl ?_
                        have a57 : ∀ k, A53 16 k = A30 16 k := fun k => hf55 16 k rfl rfl
                        refine x_iald (Wf := WK cB cI cJ cZ cQ q) hx hb hK hP 16 1 (wkALb) rfl (by omega) (by decide) (dk_at dkX0_prepareBars_3 13 rfl) (fun z58 hz58 => ?_)
                        have rz58 : (-2147483648 : Int) ≤ z58 ∧ z58 ≤ 2147483647 := by rw [hz58]; exact irALb hI
                        have gz58 := Hd.mk hz58
                        have hz58 : z58 = A30 16 (z28).toNat := hz58.trans (a57 _)
                        refine lv_iconst (v := iI 1) hx hb (dk_at dkX0_prepareBars_3 14 rfl) (by decide +kernel) ?_
                        refine lv_iload hx hb (dk_at dkX0_prepareBars_3 15 rfl) (lv_at hl 2 rfl) ?_
                        refine lv_ishl hx hb (dk_at dkX0_prepareBars_4 0 rfl) ?_
                        refine x_absE (fun z59 gz59 hz59 => ?_)
                        refine lv_ior hx hb (dk_at dkX0_prepareBars_4 1 rfl) ?_
                        refine x_absE (fun z60 gz60 hz60 => ?_)
                        refine k_iast (Wf := WK cB cI cJ cZ cQ q) hx hb hK hP hDD hS 16 1 (wkALb) rfl (by omega) (by decide) (dk_at dkX0_prepareBars_4 2 rfl) (wsALb) (fun H locs A61 hA61 hP hS => ?_)
                        have hI := isALb hA61 hI (show (-2147483648 : Int) ≤ z60 ∧ z60 ≤ 2147483647 from hz60)
                        exact J123_42 _ _ _ _ (fun uq ⟨mm1, mm2, mm3, hq⟩ => hk3 _ ⟨mm1, mm2, mm3 + 1, (u_d_X0_prepareBars_3 ⟨gI35.out, ⟨f33, (Or.inr ⟨c36, ⟨z37, hz37, ⟨z38, ghw40, (Or.inr ⟨c41, ⟨z46, gz46.out, ⟨z50, gz50.out, ⟨z51, gz51.out, ⟨z52, A53, ghw54, (Or.inr ⟨c56, ⟨z58, gz58.out, ⟨z59, gz59.out, ⟨z60, gz60.out, ⟨A61, hA61, hq⟩⟩⟩⟩⟩)⟩⟩⟩⟩⟩)⟩⟩⟩)⟩⟩)⟩) hI (fk.da (fk.trans (fk.rf) hf55 rfl rfl) hA61 rfl) hP hS (lv_sub hl [0, 1, 2, 3, 4, 5, 6, 7] rfl)
              exact L51_31 _ 0 _ _ _ _ (by omega) (fun uq ⟨mm1, mm2, mm3, hq⟩ => hk2 _ ⟨mm1, mm2 + 1, (u_d_X0_prepareBars_2 ⟨gI20.out, ⟨f15, ⟨z23, gz23.out, (Or.inr ⟨c24, ⟨z27, gz27.out, ⟨mm3, hq⟩⟩⟩)⟩⟩⟩)⟩) rfl hI (fk.rf) hP hS (lv_sub hl [0, 1, 2, 3, 4, 5, 6] rfl)
        exact L27_13 _ 0 _ _ _ _ (by omega) (fun uq ⟨mm1, mm2, hq⟩ => hk1 _ ⟨mm1 + 1, (u_d_X0_prepareBars_1 ⟨gI8.out, ⟨f6, (Or.inl ⟨c9, ⟨mm2, hq⟩⟩)⟩⟩)⟩) rfl hI (fk.rf) hP hS (lv_sub hl [0, 1, 2, 3, 4] rfl)
      · have c9 : ¬ 88 ≤ z1 := mt (i_le ⟨by decide, by decide⟩ (rb f6 (by decide) (by decide))).mpr c9
        refine lv_aload_n hx hb (dk_at dkX0_prepareBars_0 5 rfl) rfl (lv_at hl 1 rfl) ?_
        refine va_get (D := (dC, dI)) (ci := 0) (v := .ref (q 16)) (C := RX0) (T := TX0) (N := 17) hx hb hts hiX0 hown hK hP 6 (wkAL) rfl 5 (by decide) (hts _ (List.mem_cons_of_mem _ wkq_1_27)) (fun _ h9 => h9) rfl (dk_at dkX0_prepareBars_0 6 rfl) ?_
        refine lv_iload hx hb (dk_at dkX0_prepareBars_0 7 rfl) (lv_at hl 0 rfl) ?_
        refine lv_iconst (v := iI 0) hx hb (dk_at dkX0_prepareBars_0 8 rfl) (by decide +kernel) ?_
        refine k_iast (Wf := WK cB cI cJ cZ cQ q) hx hb hK hP hDD hS 16 1 (wkALb) rfl (by omega) (by decide) (dk_at dkX0_prepareBars_0 9 rfl) (wsALb) (fun H locs A65 hA65 hP hS => ?_)
        have hI := isALb hA65 hI (show (-2147483648 : Int) ≤ 0 ∧ 0 ≤ 2147483647 from ⟨by decide, by decide⟩)
        refine lv_iinc (v := iI (z1 + 1)) (lv' := [(4, .int (iI (z1 + 1))), (0, .ref (q 6)), (1, .ref (q ta)), (2, .int (iI x2)), (3, .int (iI x3))]) hx hb (dk_at dkX0_prepareBars_0 10 rfl) hl (k := 0) rfl (i_inc (by omega)) (by decide) rfl (fun ls hl => ?_)
        refine lv_goto (tgt := 3) hx hb (dk_at dkX0_prepareBars_0 11 rfl) (by decide) ?_
        exact ih5 _ (by omega) (z1 + 1) _ _ _ _ (by omega) (fun uq ⟨mm1, hq⟩ => hk1 _ ⟨mm1 + 1, (u_d_X0_prepareBars_1 ⟨gI8.out, ⟨f6, (Or.inr ⟨c9, ⟨A65, hA65, hq⟩⟩)⟩⟩)⟩) rfl hI (fk.da (fk.trans (fk.rf) hj2 rfl rfl) hA65 rfl) hP hS (lv_sub hl [0, 1, 2, 3, 4] rfl)
  exact L3_4 _ 0 _ _ _ _ (by omega) (fun uq ⟨mm1, hq⟩ => (u_r_X0_prepareBars ⟨mm1, hq⟩)) rfl hI (fk.rf) hP hS (lv_sub hl [0, 1, 2, 3, 4] rfl)

abbrev tr_d_X0_clearSets_1 (A : St) (u : St) (K1 : Int → St → Prop) (z1 : Int) (A3 : St) : Prop := ((IK A3) ∧ ((0 ≤ z1 ∧ z1 ≤ 2147483647) ∧ (((1201 ≤ z1) ∧ (u = A3)) ∨ ((¬ 1201 ≤ z1) ∧ ((((A 6 11) ≤ 64 * z1) ∧ (u = A3)) ∨ ((¬ (A 6 11) ≤ 64 * z1) ∧ (∃ A13 : St, A13 = stA A3 7 (z1).toNat 0 ∧ (∃ A17 : St, A17 = stA A13 (18 + ((A 6 8)).toNat) (z1).toNat 0 ∧ (K1 (z1 + 1) A17)))))))))
def d_X0_clearSets_1 (A : St) (u : St) : Nat → Int → St → Prop
  | 0, _, _ => False
  | nn9 + 1, z1, A3 => tr_d_X0_clearSets_1 A u (fun z1 A3 => d_X0_clearSets_1 A u nn9 z1 A3) z1 A3
theorem u_d_X0_clearSets_1 {A : St} {u : St} {nn9 : Nat} {z1 : Int} {A3 : St} (h : tr_d_X0_clearSets_1 A u (fun z1 A3 => d_X0_clearSets_1 A u nn9 z1 A3) z1 A3) : d_X0_clearSets_1 A u (nn9 + 1) z1 A3 := h
abbrev tr_r_X0_clearSets (A : St) (u : St) : Prop := (∃ nn9 : Nat, d_X0_clearSets_1 A u nn9 0 A)
def r_X0_clearSets (A : St) (u : St) : Prop := tr_r_X0_clearSets A u
theorem u_r_X0_clearSets {A : St} {u : St} (h : tr_r_X0_clearSets A u) : r_X0_clearSets A u := h
def q_X0_clearSets (A : St) (u : St) : Prop := r_X0_clearSets A u ∧ IK u ∧ fk [7, 18, 19] [] A u ∧ (True)
def ws_kc_X0_clearSets : List Cond := .code yX0_clearSets cX0_clearSets 2 none :: WY
set_option maxHeartbeats 4000000 in
set_option maxRecDepth 100000 in
theorem kc_X0_clearSets (l : Launch) (dC : Nat → ClassId) (dI : Nat → Nat → Nat) (cB cI cJ cZ cQ : ClassId) (aL aS : Nat) (q : Nat → Nat) (A : St) (hI : IK A) : KMv l yX0_clearSets ws_kc_X0_clearSets ({ frames := 0, cells := 0, slots := 0, locals := 0 } : Room) aL aS (dC, dI) (tyA cB cI cJ cZ cQ) (WK cB cI cJ cZ cQ q) A [.ref (q 6)] (fun u => r_X0_clearSets A u ∧ IK u ∧ fk [7, 18, 19] [] A u ∧ (True)) := by
  refine k_metv (cc := cX0_clearSets) (maxL := 2) WK_adr (plainFor_of_name (by decide +kernel)) rfl (Nat.le_of_ble_eq_true rfl) (fun p e s m below meth c Q AS ls hx hb hml hown hts hK hDD hA0 hE RET H locs hP hS hl => ?_)
  have hown : s.vm.findClass RX0 = some m.cls := hown
  have hl : lv_has ls 2 [(0, .ref (q 6))] := hl
  have hiX0 : ∀ w ∈ u_ws RX0 TX0 17, w ∈ ws_kc_X0_clearSets := fun w h => List.mem_cons_of_mem _ (wy_layX0 w h)
  refine lv_iconst (v := iI 0) hx hb (dk_at dkX0_clearSets_0 0 rfl) (by decide +kernel) ?_
  refine lv_istore_n (lv' := [(1, .int (iI 0)), (0, .ref (q 6))]) hx hb (dk_at dkX0_clearSets_0 1 rfl) rfl hl (by decide) rfl (fun ls hl => ?_)
  have L2_4 : ∀ (n7 : Nat) (z1 : Int) (A3 : St) (H : Heap) (locs : List Loc) (ls : Array Slot), (0 ≤ z1 ∧ z1 ≤ 2147483647) → (∀ (u : St), (∃ mm1 : Nat, (d_X0_clearSets_1 A u mm1 z1 A3)) → r_X0_clearSets A u) → ((1202 - z1).toNat = n7) → IK A3 → fk [7, 18, 19] [] A A3 → va_P (dC, dI) vwCl (WK cB cI cJ cZ cQ q A3) H → va_S AS s.heap H locs → lv_has ls 2 [(1, .int (iI z1)), (0, .ref (q 6))] → W p l e (headSpec ws_kc_X0_clearSets ({ frames := 0, cells := 0, slots := 0, locals := 0 } : Room)).room s m [.ref (q 6)].toArray below meth c H locs 0 0 Q (F0 m 2 ls []) := by
    intro n7
    induction n7 using Nat.strongRecOn with
    | ind n7 ih5 =>
      intro z1 A3 H locs ls f6 hk1 hn7 hI hj2 hP hS hl
      have gI8 : Hd (IK A3) := Hd.mk hI
      refine lv_iload_n hx hb (dk_at dkX0_clearSets_0 2 rfl) rfl (lv_at hl 0 rfl) ?_
      refine lv_sipush (v := iI 1201) hx hb (dk_at dkX0_clearSets_0 3 rfl) (by decide +kernel) ?_
      refine lv_icmp_ge (tgt := 40) hx hb (dk_at dkX0_clearSets_0 4 rfl) (by decide) (fun c9 => ?_) (fun c9 => ?_)
      · have c9 : 1201 ≤ z1 := (i_le ⟨by decide, by decide⟩ (rb f6 (by decide) (by decide))).mp c9
        exact RET _ _ _ _ _ ⟨hk1 _ ⟨0 + 1, (u_d_X0_clearSets_1 ⟨gI8.out, ⟨f6, (Or.inl ⟨c9, rfl⟩)⟩⟩)⟩, hI, fk.trans (fk.rf) hj2 rfl rfl, trivial⟩ hP hS (dk_at dkX0_clearSets_1 7 rfl)
      · have c9 : ¬ 1201 ≤ z1 := mt (i_le ⟨by decide, by decide⟩ (rb f6 (by decide) (by decide))).mpr c9
        refine lv_iload_n hx hb (dk_at dkX0_clearSets_0 5 rfl) rfl (lv_at hl 0 rfl) ?_
        refine lv_bipush (v := iI 64) hx hb (dk_at dkX0_clearSets_0 6 rfl) (by decide +kernel) ?_
        refine x_mulv (v := 64 * z1) hx hb (dk_at dkX0_clearSets_0 7 rfl) (by omega) ?_
        refine lv_aload_n hx hb (dk_at dkX0_clearSets_0 8 rfl) rfl (lv_at hl 1 rfl) ?_
        have e10 : A3 6 11 = (A 6 11) := (hj2 6 11 rfl rfl)
        have r11 : (-2147483648 : Int) ≤ (A 6 11) ∧ (A 6 11) ≤ 76832 := by rw [← e10]; exact irAL_11 hI
        refine va_get (D := (dC, dI)) (ci := 0) (v := .int (iI (A3 6 11))) (C := RX0) (T := TX0) (N := 17) hx hb hts hiX0 hown hK hP 6 (wkAL) rfl 11 (by decide) (hts _ (List.mem_cons_of_mem _ wkq_0_20)) (fun _ h9 => h9) rfl (dk_at dkX0_clearSets_0 9 rfl) ?_
        refine tp_i (y := iI (A 6 11)) (congrArg iI e10) ?_
        refine lv_icmp_ge (tgt := 40) hx hb (dk_at dkX0_clearSets_0 10 rfl) (by decide) (fun c12 => ?_) (fun c12 => ?_)
        · have c12 : (A 6 11) ≤ 64 * z1 := (i_le (rb r11 (by decide) (by decide)) (by omega)).mp c12
          exact RET _ _ _ _ _ ⟨hk1 _ ⟨0 + 1, (u_d_X0_clearSets_1 ⟨gI8.out, ⟨f6, (Or.inr ⟨c9, (Or.inl ⟨c12, rfl⟩)⟩)⟩⟩)⟩, hI, fk.trans (fk.rf) hj2 rfl rfl, trivial⟩ hP hS (dk_at dkX0_clearSets_1 7 rfl)
        · have c12 : ¬ (A 6 11) ≤ 64 * z1 := mt (i_le (rb r11 (by decide) (by decide)) (by omega)).mpr c12
          refine lv_aload_n hx hb (dk_at dkX0_clearSets_0 11 rfl) rfl (lv_at hl 1 rfl) ?_
          refine va_get (D := (dC, dI)) (ci := 0) (v := .ref (q 7)) (C := RX0) (T := TX0) (N := 17) hx hb hts hiX0 hown hK hP 6 (wkAL) rfl 0 (by decide) (hts _ (List.mem_cons_of_mem _ wkq_2_8)) (fun _ h9 => h9) rfl (dk_at dkX0_clearSets_0 12 rfl) ?_
          refine lv_iload_n hx hb (dk_at dkX0_clearSets_0 13 rfl) rfl (lv_at hl 0 rfl) ?_
          refine lv_lconst (v := jI 0) hx hb (dk_at dkX0_clearSets_0 14 rfl) (by decide +kernel) ?_
          refine k_last (Wf := WK cB cI cJ cZ cQ q) hx hb hK hP hDD hS 7 2 (wkALs) rfl (by omega) (by decide) (dk_at dkX0_clearSets_0 15 rfl) (wsALs) (fun H locs A13 hA13 hP hS => ?_)
          have hI := isALs hA13 hI (show (-9223372036854775808 : Int) ≤ 0 ∧ 0 ≤ 9223372036854775807 from ⟨by decide, by decide⟩)
          refine lv_aload_n hx hb (dk_at dkX0_clearSets_1 0 rfl) rfl (lv_at hl 1 rfl) ?_
          have e15 : A3 6 8 = (A 6 8) := (hj2 6 8 rfl rfl)
          have e14 : A13 6 8 = (A 6 8) := (rd_ne hA13 (by decide) 8).trans e15
          have r16 : (0 : Int) ≤ (A 6 8) ∧ (A 6 8) ≤ 1 := by rw [← e14]; exact irAL_8 hI
          refine va_get (D := (dC, dI)) (ci := 0) (v := .ref (q (18 + (A13 6 8).toNat))) (C := RX0) (T := TX0) (N := 17) hx hb hts hiX0 hown hK hP 6 (wkAL) rfl 8 (by decide) (hts _ (List.mem_cons_of_mem _ wkq_2_9)) (fun _ h9 => h9) rfl (dk_at dkX0_clearSets_1 1 rfl) ?_
          refine tp_v (y := .ref (q (18 + ((A 6 8)).toNat))) (by rw [e14]) ?_
          refine lv_iload_n hx hb (dk_at dkX0_clearSets_1 2 rfl) rfl (lv_at hl 0 rfl) ?_
          refine lv_lconst (v := jI 0) hx hb (dk_at dkX0_clearSets_1 3 rfl) (by decide +kernel) ?_
          refine k_last (Wf := WK cB cI cJ cZ cQ q) hx hb hK hP hDD hS (18 + ((A 6 8)).toNat) 2 (wkALf (i := (A 6 8)) (by omega)) rfl (by omega) (by decide) (dk_at dkX0_clearSets_1 4 rfl) (wsALf (i := (A 6 8)) (by omega)) (fun H locs A17 hA17 hP hS => ?_)
          have hI := isALf (i := (A 6 8)) (by omega) hA17 hI (show (-9223372036854775808 : Int) ≤ 0 ∧ 0 ≤ 9223372036854775807 from ⟨by decide, by decide⟩)
          refine lv_iinc (v := iI (z1 + 1)) (lv' := [(1, .int (iI (z1 + 1))), (0, .ref (q 6))]) hx hb (dk_at dkX0_clearSets_1 5 rfl) hl (k := 0) rfl (i_inc (by omega)) (by decide) rfl (fun ls hl => ?_)
          refine lv_goto (tgt := 2) hx hb (dk_at dkX0_clearSets_1 6 rfl) (by decide) ?_
          exact ih5 _ (by omega) (z1 + 1) _ _ _ _ (by omega) (fun uq ⟨mm1, hq⟩ => hk1 _ ⟨mm1 + 1, (u_d_X0_clearSets_1 ⟨gI8.out, ⟨f6, (Or.inr ⟨c9, (Or.inr ⟨c12, ⟨A13, hA13, ⟨A17, hA17, hq⟩⟩⟩)⟩)⟩⟩)⟩) rfl hI (fk.da (fk.da (fk.trans (fk.rf) hj2 rfl rfl) hA13 rfl) hA17 (by rcases (show (A 6 8) = 0 ∨ (A 6 8) = 1 by omega) with g | g <;> rw [g] <;> rfl)) hP hS (lv_sub hl [0, 1] rfl)
  exact L2_4 _ 0 _ _ _ _ (by omega) (fun uq ⟨mm1, hq⟩ => (u_r_X0_clearSets ⟨mm1, hq⟩)) rfl hI (fk.rf) hP hS (lv_sub hl [0, 1] rfl)

abbrev tr_d_X0_shutNow_2 (K1 : Int → Int → Prop) (z2 : Int) (z : Int) (z24 : Int) : Prop := ((-2147483648 ≤ z24 ∧ z24 ≤ 2147483647) ∧ (K1 (z2 + 1) z24))
def d_X0_shutNow_2 (K1 : Int → Int → Prop) (z2 : Int) (z : Int) (z24 : Int) : Prop := tr_d_X0_shutNow_2 K1 z2 z z24
theorem u_d_X0_shutNow_2 {K1 : Int → Int → Prop} {z2 : Int} {z : Int} {z24 : Int} (h : tr_d_X0_shutNow_2 K1 z2 z z24) : d_X0_shutNow_2 K1 z2 z z24 := h
abbrev tr_d_X0_shutNow_1 (ta : Nat) (A : St) (z : Int) (K1 : Int → Int → Prop) (z2 : Int) (z3 : Int) : Prop := ((0 ≤ z2 ∧ z2 ≤ 2147483647) ∧ ((-2147483648 ≤ z3 ∧ z3 ≤ 2147483647) ∧ (∃ z11 : Int, z11 = A (ta + 1) (2 : Int).toNat ∧ (((z11 ≤ z2) ∧ (z = z3)) ∨ ((¬ z11 ≤ z2) ∧ (∃ z14 : Int, z14 = A 13 (z2).toNat ∧ (((z14 ≤ 0) ∧ (d_X0_shutNow_2 K1 z2 z z3)) ∨ ((¬ z14 ≤ 0) ∧ (∃ z17 : Int, z17 = A 14 (z2).toNat ∧ (((z17 < 0) ∧ (d_X0_shutNow_2 K1 z2 z z3)) ∨ ((¬ z17 < 0) ∧ (((6 < z17) ∧ (d_X0_shutNow_2 K1 z2 z z3)) ∨ ((¬ 6 < z17) ∧ (∃ z22 : Int, z22 = A (9 + (z2).toNat) (z17).toNat ∧ (∃ z23 : Int, z23 = oOr z3 z22 ∧ (d_X0_shutNow_2 K1 z2 z z23))))))))))))))))
def d_X0_shutNow_1 (ta : Nat) (A : St) (z : Int) : Nat → Int → Int → Prop
  | 0, _, _ => False
  | nn9 + 1, z2, z3 => tr_d_X0_shutNow_1 ta A z (fun z2 z3 => d_X0_shutNow_1 ta A z nn9 z2 z3) z2 z3
theorem u_d_X0_shutNow_1 {ta : Nat} {A : St} {z : Int} {nn9 : Nat} {z2 : Int} {z3 : Int} (h : tr_d_X0_shutNow_1 ta A z (fun z2 z3 => d_X0_shutNow_1 ta A z nn9 z2 z3) z2 z3) : d_X0_shutNow_1 ta A z (nn9 + 1) z2 z3 := h
abbrev tr_r_X0_shutNow (ta : Nat) (A : St) (z : Int) : Prop := (∃ nn9 : Nat, d_X0_shutNow_1 ta A z nn9 0 (A 6 12))
def r_X0_shutNow (ta : Nat) (A : St) (z : Int) : Prop := tr_r_X0_shutNow ta A z
theorem u_r_X0_shutNow {ta : Nat} {A : St} {z : Int} (h : tr_r_X0_shutNow ta A z) : r_X0_shutNow ta A z := h
def q_X0_shutNow (ta : Nat) (A : St) (z : Int) : Prop := r_X0_shutNow ta A z ∧ (-2147483648 ≤ z ∧ z ≤ 2147483647)
def ws_kc_X0_shutNow : List Cond := .code yX0_shutNow cX0_shutNow 4 (some .int) :: WY
set_option maxHeartbeats 4000000 in
set_option maxRecDepth 100000 in
theorem kc_X0_shutNow (l : Launch) (dC : Nat → ClassId) (dI : Nat → Nat → Nat) (cB cI cJ cZ cQ : ClassId) (aL aS : Nat) (q : Nat → Nat) (A : St) (ta : Nat) (hI : IK A) (hta : isT ta) : KMi l yX0_shutNow ws_kc_X0_shutNow ({ frames := 0, cells := 0, slots := 0, locals := 0 } : Room) aL aS (dC, dI) (tyA cB cI cJ cZ cQ) (WK cB cI cJ cZ cQ q) A [.ref (q 6), .ref (q ta)] (fun z u => A = u ∧ r_X0_shutNow ta A z ∧ (-2147483648 ≤ z ∧ z ≤ 2147483647)) := by
  refine k_meti (cc := cX0_shutNow) (maxL := 4) WK_adr (plainFor_of_name (by decide +kernel)) rfl (Nat.le_of_ble_eq_true rfl) (fun p e s m below meth c Q AS ls hx hb hml hown hts hK hDD hA0 hE RET H locs hP hS hl => ?_)
  have hown : s.vm.findClass RX0 = some m.cls := hown
  have hl : lv_has ls 4 [(0, .ref (q 6)), (1, .ref (q ta))] := hl
  have hiX0 : ∀ w ∈ u_ws RX0 TX0 17, w ∈ ws_kc_X0_shutNow := fun w h => List.mem_cons_of_mem _ (wy_layX0 w h)
  have hiX9 : ∀ w ∈ u_ws RX9 TX9 16, w ∈ ws_kc_X0_shutNow := fun w h => List.mem_cons_of_mem _ (wy_layX9 w h)
  refine lv_aload_n hx hb (dk_at dkX0_shutNow_0 0 rfl) rfl (lv_at hl 0 rfl) ?_
  have r1 : (-2147483648 : Int) ≤ (A 6 12) ∧ (A 6 12) ≤ 2147483647 := irAL_12 hI
  refine va_get (D := (dC, dI)) (ci := 0) (v := .int (iI (A 6 12))) (C := RX0) (T := TX0) (N := 17) hx hb hts hiX0 hown hK hP 6 (wkAL) rfl 12 (by decide) (hts _ (List.mem_cons_of_mem _ wkq_0_38)) (fun _ h9 => h9) rfl (dk_at dkX0_shutNow_0 1 rfl) ?_
  refine lv_istore_n (lv' := [(2, .int (iI (A 6 12))), (0, .ref (q 6)), (1, .ref (q ta))]) hx hb (dk_at dkX0_shutNow_0 2 rfl) rfl hl (by decide) rfl (fun ls hl => ?_)
  refine lv_iconst (v := iI 0) hx hb (dk_at dkX0_shutNow_0 3 rfl) (by decide +kernel) ?_
  refine lv_istore_n (lv' := [(3, .int (iI 0)), (2, .int (iI (A 6 12))), (0, .ref (q 6)), (1, .ref (q ta))]) hx hb (dk_at dkX0_shutNow_0 4 rfl) rfl hl (by decide) rfl (fun ls hl => ?_)
  have L7_5 : ∀ (n10 : Nat) (z2 z3 : Int) (H : Heap) (locs : List Loc) (ls : Array Slot), (0 ≤ z2 ∧ z2 ≤ 2147483647) → (-2147483648 ≤ z3 ∧ z3 ≤ 2147483647) → (∀ (z : Int), (∃ mm1 : Nat, (d_X0_shutNow_1 ta A z mm1 z2 z3)) → r_X0_shutNow ta A z) → ((5 - z2).toNat = n10) → va_P (dC, dI) vwCl (WK cB cI cJ cZ cQ q A) H → va_S AS s.heap H locs → lv_has ls 4 [(3, .int (iI z2)), (2, .int (iI z3)), (0, .ref (q 6)), (1, .ref (q ta))] → W p l e (headSpec ws_kc_X0_shutNow ({ frames := 0, cells := 0, slots := 0, locals := 0 } : Room)).room s m [.ref (q 6), .ref (q ta)].toArray below meth c H locs 0 0 Q (F0 m 7 ls []) := by
    intro n10
    induction n10 using Nat.strongRecOn with
    | ind n10 ih6 =>
      intro z2 z3 H locs ls f7 f8 hk1 hn10 hP hS hl
      refine lv_iload_n hx hb (dk_at dkX0_shutNow_0 5 rfl) rfl (lv_at hl 0 rfl) ?_
      refine lv_aload_n hx hb (dk_at dkX0_shutNow_0 6 rfl) rfl (lv_at hl 3 rfl) ?_
      refine va_get (D := (dC, dI)) (ci := 9) (v := .ref (q (ta + 1))) (C := RX9) (T := TX9) (N := 16) hx hb hts hiX9 hown hK hP ta (wkT hta) rfl 0 (by decide) (hts _ (List.mem_cons_of_mem _ wkq_0_1)) (fun _ h9 => h9) rfl (dk_at dkX0_shutNow_0 7 rfl) ?_
      refine lv_iconst (v := iI 2) hx hb (dk_at dkX0_shutNow_0 8 rfl) (by decide +kernel) ?_
      refine x_iald (Wf := WK cB cI cJ cZ cQ q) hx hb hK hP (ta + 1) 1 (wkTc hta) rfl (by decide) (by decide) (dk_at dkX0_shutNow_0 9 rfl) (fun z11 hz11 => ?_)
      have rz11 : (0 : Int) ≤ z11 ∧ z11 ≤ 4 := by rw [hz11]; exact irTc2 hta hI
      have gz11 := Hd.mk hz11
      refine lv_icmp_ge (tgt := 73) hx hb (dk_at dkX0_shutNow_0 10 rfl) (by decide) (fun c12 => ?_) (fun c12 => ?_)
      · have c12 : z11 ≤ z2 := (i_le (rb rz11 (by decide) (by decide)) (rb f7 (by decide) (by decide))).mp c12
        refine lv_iload_n hx hb (dk_at dkX0_shutNow_2 12 rfl) rfl (lv_at hl 1 rfl) ?_
        exact RET z3 _ _ _ _ _ ⟨rfl, hk1 _ ⟨0 + 1, (u_d_X0_shutNow_1 ⟨f7, ⟨f8, ⟨z11, gz11.out, (Or.inl ⟨c12, rfl⟩)⟩⟩⟩)⟩, f8⟩ hP hS (dk_at dkX0_shutNow_2 13 rfl)
      · have c12 : ¬ z11 ≤ z2 := mt (i_le (rb rz11 (by decide) (by decide)) (rb f7 (by decide) (by decide))).mpr c12
        refine lv_iload_n hx hb (dk_at dkX0_shutNow_0 11 rfl) rfl (lv_at hl 0 rfl) ?_
        refine lv_iconst (v := iI 4) hx hb (dk_at dkX0_shutNow_0 12 rfl) (by decide +kernel) ?_
        refine lv_icmp_ge (tgt := 73) hx hb (dk_at dkX0_shutNow_0 13 rfl) (by decide) (fun c13 => False.elim (by have c13 : 4 ≤ z2 := (i_le ⟨by decide, by decide⟩ (rb f7 (by decide) (by decide))).mp c13; omega)) (fun _ => ?_)
        refine lv_aload_n hx hb (dk_at dkX0_shutNow_0 14 rfl) rfl (lv_at hl 2 rfl) ?_
        refine va_get (D := (dC, dI)) (ci := 0) (v := .ref (q 13)) (C := RX0) (T := TX0) (N := 17) hx hb hts hiX0 hown hK hP 6 (wkAL) rfl 2 (by decide) (hts _ (List.mem_cons_of_mem _ wkq_0_39)) (fun _ h9 => h9) rfl (dk_at dkX0_shutNow_0 15 rfl) ?_
        refine lv_iload_n hx hb (dk_at dkX0_shutNow_1 0 rfl) rfl (lv_at hl 0 rfl) ?_
        refine x_iald (Wf := WK cB cI cJ cZ cQ q) hx hb hK hP 13 1 (wkALu) rfl (by omega) (by decide) (dk_at dkX0_shutNow_1 1 rfl) (fun z14 hz14 => ?_)
        have rz14 : (-2147483648 : Int) ≤ z14 ∧ z14 ≤ 2147483647 := by rw [hz14]; exact irALu hI
        have gz14 := Hd.mk hz14
        have J67_16 : ∀ (z24 : Int) (H : Heap) (locs : List Loc) (ls : Array Slot), (-2147483648 ≤ z24 ∧ z24 ≤ 2147483647) → (∀ (z : Int), (∃ mm1 : Nat, (d_X0_shutNow_2 (fun z2' z3' => d_X0_shutNow_1 ta A z mm1 z2' z3') z2 z z24)) → r_X0_shutNow ta A z) → va_P (dC, dI) vwCl (WK cB cI cJ cZ cQ q A) H → va_S AS s.heap H locs → lv_has ls 4 [(3, .int (iI z2)), (2, .int (iI z24)), (0, .ref (q 6)), (1, .ref (q ta))] → W p l e (headSpec ws_kc_X0_shutNow ({ frames := 0, cells := 0, slots := 0, locals := 0 } : Room)).room s m [.ref (q 6), .ref (q ta)].toArray below meth c H locs 0 0 Q (F0 m 67 ls []) := by
          intro z24 H locs ls f26 hk2 hP hS hl
          refine lv_iinc (v := iI (z2 + 1)) (lv' := [(3, .int (iI (z2 + 1))), (2, .int (iI z24)), (0, .ref (q 6)), (1, .ref (q ta))]) hx hb (dk_at dkX0_shutNow_2 10 rfl) hl (k := 0) rfl (i_inc (by omega)) (by decide) rfl (fun ls hl => ?_)
          refine lv_goto (tgt := 7) hx hb (dk_at dkX0_shutNow_2 11 rfl) (by decide) ?_
          exact ih6 _ (by omega) (z2 + 1) z24 _ _ _ (by omega) (by omega) (fun zq ⟨mm1, hq⟩ => hk2 _ ⟨mm1, (u_d_X0_shutNow_2 ⟨f26, hq⟩)⟩) rfl hP hS (lv_sub hl [0, 1, 2, 3] rfl)
        refine lv_if_le (tgt := 67) hx hb (dk_at dkX0_shutNow_1 2 rfl) (by decide) (fun c15 => ?_) (fun c15 => ?_)
        · have c15 : z14 ≤ 0 := (i_le0 rz14).mp c15
          exact J67_16 z3 _ _ _ (by omega) (fun zq ⟨mm1, hq⟩ => hk1 _ ⟨mm1 + 1, (u_d_X0_shutNow_1 ⟨f7, ⟨f8, ⟨z11, gz11.out, (Or.inr ⟨c12, ⟨z14, gz14.out, (Or.inl ⟨c15, hq⟩)⟩⟩)⟩⟩⟩)⟩) hP hS (lv_sub hl [0, 1, 2, 3] rfl)
        · have c15 : ¬ z14 ≤ 0 := mt (i_le0 rz14).mpr c15
          refine lv_aload_n hx hb (dk_at dkX0_shutNow_1 3 rfl) rfl (lv_at hl 2 rfl) ?_
          refine va_get (D := (dC, dI)) (ci := 0) (v := .ref (q 14)) (C := RX0) (T := TX0) (N := 17) hx hb hts hiX0 hown hK hP 6 (wkAL) rfl 3 (by decide) (hts _ (List.mem_cons_of_mem _ wkq_2_14)) (fun _ h9 => h9) rfl (dk_at dkX0_shutNow_1 4 rfl) ?_
          refine lv_iload_n hx hb (dk_at dkX0_shutNow_1 5 rfl) rfl (lv_at hl 0 rfl) ?_
          refine x_iald (Wf := WK cB cI cJ cZ cQ q) hx hb hK hP 14 1 (wkALl) rfl (by omega) (by decide) (dk_at dkX0_shutNow_1 6 rfl) (fun z17 hz17 => ?_)
          have rz17 : (-2147483648 : Int) ≤ z17 ∧ z17 ≤ 2147483647 := by rw [hz17]; exact irALl hI
          have gz17 := Hd.mk hz17
          refine lv_if_lt (tgt := 67) hx hb (dk_at dkX0_shutNow_1 7 rfl) (by decide) (fun c18 => ?_) (fun c18 => ?_)
          · have c18 : z17 < 0 := (i_lt0 rz17).mp c18
            exact J67_16 z3 _ _ _ (by omega) (fun zq ⟨mm1, hq⟩ => hk1 _ ⟨mm1 + 1, (u_d_X0_shutNow_1 ⟨f7, ⟨f8, ⟨z11, gz11.out, (Or.inr ⟨c12, ⟨z14, gz14.out, (Or.inr ⟨c15, ⟨z17, gz17.out, (Or.inl ⟨c18, hq⟩)⟩⟩)⟩⟩)⟩⟩⟩)⟩) hP hS (lv_sub hl [0, 1, 2, 3] rfl)
          · have c18 : ¬ z17 < 0 := mt (i_lt0 rz17).mpr c18
            refine lv_aload_n hx hb (dk_at dkX0_shutNow_1 8 rfl) rfl (lv_at hl 2 rfl) ?_
            refine va_get (D := (dC, dI)) (ci := 0) (v := .ref (q 14)) (C := RX0) (T := TX0) (N := 17) hx hb hts hiX0 hown hK hP 6 (wkAL) rfl 3 (by decide) (hts _ (List.mem_cons_of_mem _ wkq_2_14)) (fun _ h9 => h9) rfl (dk_at dkX0_shutNow_1 9 rfl) ?_
            refine lv_iload_n hx hb (dk_at dkX0_shutNow_1 10 rfl) rfl (lv_at hl 0 rfl) ?_
            refine x_iald (Wf := WK cB cI cJ cZ cQ q) hx hb hK hP 14 1 (wkALl) rfl (by omega) (by decide) (dk_at dkX0_shutNow_1 11 rfl) (fun z19 hz19 => ?_)
            have rz19 : (-2147483648 : Int) ≤ z19 ∧ z19 ≤ 2147483647 := by rw [hz19]; exact irALl hI
            have gz19 := Hd.mk hz19
            have ez19 : z19 = z17 := hz19.trans hz17.symm
            refine tp_i (y := iI z17) (congrArg iI ez19) ?_
            refine lv_bipush (v := iI 6) hx hb (dk_at dkX0_shutNow_1 12 rfl) (by decide +kernel) ?_
            refine lv_icmp_gt (tgt := 67) hx hb (dk_at dkX0_shutNow_1 13 rfl) (by decide) (fun c20 => ?_) (fun c20 => ?_)
            · have c20 : 6 < z17 := (i_lt ⟨by decide, by decide⟩ rz17).mp c20
              exact J67_16 z3 _ _ _ (by omega) (fun zq ⟨mm1, hq⟩ => hk1 _ ⟨mm1 + 1, (u_d_X0_shutNow_1 ⟨f7, ⟨f8, ⟨z11, gz11.out, (Or.inr ⟨c12, ⟨z14, gz14.out, (Or.inr ⟨c15, ⟨z17, gz17.out, (Or.inr ⟨c18, (Or.inl ⟨c20, hq⟩)⟩)⟩⟩)⟩⟩)⟩⟩⟩)⟩) hP hS (lv_sub hl [0, 1, 2, 3] rfl)
            · have c20 : ¬ 6 < z17 := mt (i_lt ⟨by decide, by decide⟩ rz17).mpr c20
              refine lv_iload_n hx hb (dk_at dkX0_shutNow_1 14 rfl) rfl (lv_at hl 1 rfl) ?_
              refine lv_aload_n hx hb (dk_at dkX0_shutNow_1 15 rfl) rfl (lv_at hl 2 rfl) ?_
              refine va_get (D := (dC, dI)) (ci := 0) (v := .ref (q 8)) (C := RX0) (T := TX0) (N := 17) hx hb hts hiX0 hown hK hP 6 (wkAL) rfl 1 (by decide) (hts _ (List.mem_cons_of_mem _ wkq_0_41)) (fun _ h9 => h9) rfl (dk_at dkX0_shutNow_2 0 rfl) ?_
              refine lv_iload_n hx hb (dk_at dkX0_shutNow_2 1 rfl) rfl (lv_at hl 0 rfl) ?_
              refine k_aald (Wf := WK cB cI cJ cZ cQ q) hx hb hK hP 8 4 (wkALq) rfl (by omega) (by decide) (b := q (9 + (z2).toNat)) (by rcases (show z2 = 0 ∨ z2 = 1 ∨ z2 = 2 ∨ z2 = 3 by omega) with h | h | h | h <;> rw [h] <;> rfl) (dk_at dkX0_shutNow_2 2 rfl) ?_
              refine lv_aload_n hx hb (dk_at dkX0_shutNow_2 3 rfl) rfl (lv_at hl 2 rfl) ?_
              refine va_get (D := (dC, dI)) (ci := 0) (v := .ref (q 14)) (C := RX0) (T := TX0) (N := 17) hx hb hts hiX0 hown hK hP 6 (wkAL) rfl 3 (by decide) (hts _ (List.mem_cons_of_mem _ wkq_2_14)) (fun _ h9 => h9) rfl (dk_at dkX0_shutNow_2 4 rfl) ?_
              refine lv_iload_n hx hb (dk_at dkX0_shutNow_2 5 rfl) rfl (lv_at hl 0 rfl) ?_
              refine x_iald (Wf := WK cB cI cJ cZ cQ q) hx hb hK hP 14 1 (wkALl) rfl (by omega) (by decide) (dk_at dkX0_shutNow_2 6 rfl) (fun z21 hz21 => ?_)
              have rz21 : (-2147483648 : Int) ≤ z21 ∧ z21 ≤ 2147483647 := by rw [hz21]; exact irALl hI
              have gz21 := Hd.mk hz21
              have ez21 : z21 = z17 := hz21.trans hz17.symm
              refine tp_i (y := iI z17) (congrArg iI ez21) ?_
              refine x_iald (Wf := WK cB cI cJ cZ cQ q) hx hb hK hP (9 + (z2).toNat) 1 (wkALr (i := z2) (by omega)) rfl (by omega) (by decide) (dk_at dkX0_shutNow_2 7 rfl) (fun z22 hz22 => ?_)
              have rz22 : (-2147483648 : Int) ≤ z22 ∧ z22 ≤ 2147483647 := by rw [hz22]; exact irALr (i := z2) (by omega) hI
              have gz22 := Hd.mk hz22
              refine lv_ior hx hb (dk_at dkX0_shutNow_2 8 rfl) ?_
              refine x_absE (fun z23 gz23 hz23 => ?_)
              refine lv_istore_n (lv' := [(2, .int (iI z23)), (3, .int (iI z2)), (0, .ref (q 6)), (1, .ref (q ta))]) hx hb (dk_at dkX0_shutNow_2 9 rfl) rfl hl (by decide) rfl (fun ls hl => ?_)
              exact J67_16 z23 _ _ _ (by omega) (fun zq ⟨mm1, hq⟩ => hk1 _ ⟨mm1 + 1, (u_d_X0_shutNow_1 ⟨f7, ⟨f8, ⟨z11, gz11.out, (Or.inr ⟨c12, ⟨z14, gz14.out, (Or.inr ⟨c15, ⟨z17, gz17.out, (Or.inr ⟨c18, (Or.inr ⟨c20, ⟨z22, gz22.out, ⟨z23, gz23.out, hq⟩⟩⟩)⟩)⟩⟩)⟩⟩)⟩⟩⟩)⟩) hP hS (lv_sub hl [1, 0, 2, 3] rfl)
  exact L7_5 _ 0 (A 6 12) _ _ _ (by omega) (by omega) (fun zq ⟨mm1, hq⟩ => (u_r_X0_shutNow ⟨mm1, hq⟩)) rfl hP hS (lv_sub hl [0, 1, 2, 3] rfl)

abbrev tr_d_X0_hadAt_3 (K1 : Int → Int → Prop) (z1 : Int) (z : Int) (z31 : Int) : Prop := ((-2147483648 ≤ z31 ∧ z31 ≤ 2147483647) ∧ (K1 (z1 + 1) z31))
def d_X0_hadAt_3 (K1 : Int → Int → Prop) (z1 : Int) (z : Int) (z31 : Int) : Prop := tr_d_X0_hadAt_3 K1 z1 z z31
theorem u_d_X0_hadAt_3 {K1 : Int → Int → Prop} {z1 : Int} {z : Int} {z31 : Int} (h : tr_d_X0_hadAt_3 K1 z1 z z31) : d_X0_hadAt_3 K1 z1 z z31 := h
abbrev tr_d_X0_hadAt_2 (K1 : Int → Int → Prop) (z1 : Int) (z2 : Int) (z : Int) : Prop := (∃ z29 : Int, z29 = oShl 1 z1 ∧ (∃ z30 : Int, z30 = oOr z2 z29 ∧ (d_X0_hadAt_3 K1 z1 z z30)))
def d_X0_hadAt_2 (K1 : Int → Int → Prop) (z1 : Int) (z2 : Int) (z : Int) : Prop := tr_d_X0_hadAt_2 K1 z1 z2 z
theorem u_d_X0_hadAt_2 {K1 : Int → Int → Prop} {z1 : Int} {z2 : Int} {z : Int} (h : tr_d_X0_hadAt_2 K1 z1 z2 z) : d_X0_hadAt_2 K1 z1 z2 z := h
abbrev tr_d_X0_hadAt_1 (ta : Nat) (x2 : Int) (x3 : Int) (A : St) (z : Int) (K1 : Int → Int → Prop) (z1 : Int) (z2 : Int) : Prop := ((0 ≤ z1 ∧ z1 ≤ 2147483647) ∧ ((-2147483648 ≤ z2 ∧ z2 ≤ 2147483647) ∧ ((((A 6 9) ≤ z1) ∧ (z = z2)) ∨ ((¬ (A 6 9) ≤ z1) ∧ (∃ z13 : Int, z13 = A 17 (z1).toNat ∧ (∃ z14 : Int, z14 = oWrap (z13 - 20) ∧ (∃ z16 : Int, z16 = oWrap (x2 + 10) ∧ (((z13 = z16) ∧ (d_X0_hadAt_2 K1 z1 z2 z)) ∨ ((¬ z13 = z16) ∧ (((z14 < 0) ∧ (d_X0_hadAt_3 K1 z1 z z2)) ∨ ((¬ z14 < 0) ∧ (∃ z21 : Int, q_X9_isAt ta z14 x2 A z21 ∧ (((z21 = 0) ∧ (d_X0_hadAt_3 K1 z1 z z2)) ∨ ((¬ z21 = 0) ∧ (∃ z25 : Int, z25 = oShr x3 z14 ∧ (∃ z26 : Int, z26 = oAnd z25 1 ∧ (((¬ z26 = 0) ∧ (d_X0_hadAt_3 K1 z1 z z2)) ∨ ((z26 = 0) ∧ (d_X0_hadAt_2 K1 z1 z2 z)))))))))))))))))))
def d_X0_hadAt_1 (ta : Nat) (x2 : Int) (x3 : Int) (A : St) (z : Int) : Nat → Int → Int → Prop
  | 0, _, _ => False
  | nn9 + 1, z1, z2 => tr_d_X0_hadAt_1 ta x2 x3 A z (fun z1 z2 => d_X0_hadAt_1 ta x2 x3 A z nn9 z1 z2) z1 z2
theorem u_d_X0_hadAt_1 {ta : Nat} {x2 : Int} {x3 : Int} {A : St} {z : Int} {nn9 : Nat} {z1 : Int} {z2 : Int} (h : tr_d_X0_hadAt_1 ta x2 x3 A z (fun z1 z2 => d_X0_hadAt_1 ta x2 x3 A z nn9 z1 z2) z1 z2) : d_X0_hadAt_1 ta x2 x3 A z (nn9 + 1) z1 z2 := h
abbrev tr_r_X0_hadAt (ta : Nat) (x2 : Int) (x3 : Int) (A : St) (z : Int) : Prop := (∃ nn9 : Nat, d_X0_hadAt_1 ta x2 x3 A z nn9 0 0)
def r_X0_hadAt (ta : Nat) (x2 : Int) (x3 : Int) (A : St) (z : Int) : Prop := tr_r_X0_hadAt ta x2 x3 A z
theorem u_r_X0_hadAt {ta : Nat} {x2 : Int} {x3 : Int} {A : St} {z : Int} (h : tr_r_X0_hadAt ta x2 x3 A z) : r_X0_hadAt ta x2 x3 A z := h
def q_X0_hadAt (ta : Nat) (x2 : Int) (x3 : Int) (A : St) (z : Int) : Prop := r_X0_hadAt ta x2 x3 A z ∧ (-2147483648 ≤ z ∧ z ≤ 2147483647)
def ws_kc_X0_hadAt : List Cond := .code yX0_hadAt cX0_hadAt 7 (some .int) :: WY
set_option maxHeartbeats 4000000 in
set_option maxRecDepth 100000 in
theorem kc_X0_hadAt (l : Launch) (dC : Nat → ClassId) (dI : Nat → Nat → Nat) (cB cI cJ cZ cQ : ClassId) (aL aS : Nat) (q : Nat → Nat) (A : St) (ta : Nat) (x2 x3 : Int) (hI : IK A) (hta : isT ta) (hx2 : (-2147483648 : Int) ≤ x2 ∧ x2 ≤ 2147483647) (hx3 : (-2147483648 : Int) ≤ x3 ∧ x3 ≤ 2147483647) : KMi l yX0_hadAt ws_kc_X0_hadAt ({ frames := 1, cells := 0, slots := 0, locals := 22 } : Room) aL aS (dC, dI) (tyA cB cI cJ cZ cQ) (WK cB cI cJ cZ cQ q) A [.ref (q 6), .ref (q ta), .int (iI x2), .int (iI x3)] (fun z u => A = u ∧ r_X0_hadAt ta x2 x3 A z ∧ (-2147483648 ≤ z ∧ z ≤ 2147483647)) := by
  refine k_meti (cc := cX0_hadAt) (maxL := 7) WK_adr (plainFor_of_name (by decide +kernel)) rfl (Nat.le_of_ble_eq_true rfl) (fun p e s m below meth c Q AS ls hx hb hml hown hts hK hDD hA0 hE RET H locs hP hS hl => ?_)
  have hown : s.vm.findClass RX0 = some m.cls := hown
  have hl : lv_has ls 7 [(0, .ref (q 6)), (1, .ref (q ta)), (2, .int (iI x2)), (3, .int (iI x3))] := hl
  have hiX0 : ∀ w ∈ u_ws RX0 TX0 17, w ∈ ws_kc_X0_hadAt := fun w h => List.mem_cons_of_mem _ (wy_layX0 w h)
  refine lv_iconst (v := iI 0) hx hb (dk_at dkX0_hadAt_0 0 rfl) (by decide +kernel) ?_
  refine lv_istore (lv' := [(4, .int (iI 0)), (0, .ref (q 6)), (1, .ref (q ta)), (2, .int (iI x2)), (3, .int (iI x3))]) hx hb (dk_at dkX0_hadAt_0 1 rfl) hl (by decide) rfl (fun ls hl => ?_)
  refine lv_iconst (v := iI 0) hx hb (dk_at dkX0_hadAt_0 2 rfl) (by decide +kernel) ?_
  refine lv_istore (lv' := [(5, .int (iI 0)), (4, .int (iI 0)), (0, .ref (q 6)), (1, .ref (q ta)), (2, .int (iI x2)), (3, .int (iI x3))]) hx hb (dk_at dkX0_hadAt_0 3 rfl) hl (by decide) rfl (fun ls hl => ?_)
  have L6_4 : ∀ (n9 : Nat) (z1 z2 : Int) (H : Heap) (locs : List Loc) (ls : Array Slot), (0 ≤ z1 ∧ z1 ≤ 2147483647) → (-2147483648 ≤ z2 ∧ z2 ≤ 2147483647) → (∀ (z : Int), (∃ mm1 : Nat, (d_X0_hadAt_1 ta x2 x3 A z mm1 z1 z2)) → r_X0_hadAt ta x2 x3 A z) → ((3 - z1).toNat = n9) → va_P (dC, dI) vwCl (WK cB cI cJ cZ cQ q A) H → va_S AS s.heap H locs → lv_has ls 7 [(5, .int (iI z1)), (4, .int (iI z2)), (0, .ref (q 6)), (1, .ref (q ta)), (2, .int (iI x2)), (3, .int (iI x3))] → W p l e (headSpec ws_kc_X0_hadAt ({ frames := 1, cells := 0, slots := 0, locals := 22 } : Room)).room s m [.ref (q 6), .ref (q ta), .int (iI x2), .int (iI x3)].toArray below meth c H locs 0 0 Q (F0 m 6 ls []) := by
    intro n9
    induction n9 using Nat.strongRecOn with
    | ind n9 ih5 =>
      intro z1 z2 H locs ls f6 f7 hk1 hn9 hP hS hl
      refine lv_iload hx hb (dk_at dkX0_hadAt_0 4 rfl) (lv_at hl 0 rfl) ?_
      refine lv_aload_n hx hb (dk_at dkX0_hadAt_0 5 rfl) rfl (lv_at hl 2 rfl) ?_
      have r10 : (0 : Int) ≤ (A 6 9) ∧ (A 6 9) ≤ 2 := irAL_9 hI
      refine va_get (D := (dC, dI)) (ci := 0) (v := .int (iI (A 6 9))) (C := RX0) (T := TX0) (N := 17) hx hb hts hiX0 hown hK hP 6 (wkAL) rfl 9 (by decide) (hts _ (List.mem_cons_of_mem _ wkq_0_29)) (fun _ h9 => h9) rfl (dk_at dkX0_hadAt_0 6 rfl) ?_
      refine lv_icmp_ge (tgt := 86) hx hb (dk_at dkX0_hadAt_0 7 rfl) (by decide) (fun c11 => ?_) (fun c11 => ?_)
      · have c11 : (A 6 9) ≤ z1 := (i_le (rb r10 (by decide) (by decide)) (rb f6 (by decide) (by decide))).mp c11
        refine lv_iload hx hb (dk_at dkX0_hadAt_2 15 rfl) (lv_at hl 1 rfl) ?_
        exact RET z2 _ _ _ _ _ ⟨rfl, hk1 _ ⟨0 + 1, (u_d_X0_hadAt_1 ⟨f6, ⟨f7, (Or.inl ⟨c11, rfl⟩)⟩⟩)⟩, f7⟩ hP hS (dk_at dkX0_hadAt_3 0 rfl)
      · have c11 : ¬ (A 6 9) ≤ z1 := mt (i_le (rb r10 (by decide) (by decide)) (rb f6 (by decide) (by decide))).mpr c11
        refine lv_iload hx hb (dk_at dkX0_hadAt_0 8 rfl) (lv_at hl 0 rfl) ?_
        refine lv_iconst (v := iI 2) hx hb (dk_at dkX0_hadAt_0 9 rfl) (by decide +kernel) ?_
        refine lv_icmp_ge (tgt := 86) hx hb (dk_at dkX0_hadAt_0 10 rfl) (by decide) (fun c12 => False.elim (by have c12 : 2 ≤ z1 := (i_le ⟨by decide, by decide⟩ (rb f6 (by decide) (by decide))).mp c12; omega)) (fun _ => ?_)
        refine lv_aload_n hx hb (dk_at dkX0_hadAt_0 11 rfl) rfl (lv_at hl 2 rfl) ?_
        refine va_get (D := (dC, dI)) (ci := 0) (v := .ref (q 17)) (C := RX0) (T := TX0) (N := 17) hx hb hts hiX0 hown hK hP 6 (wkAL) rfl 6 (by decide) (hts _ (List.mem_cons_of_mem _ wkq_0_31)) (fun _ h9 => h9) rfl (dk_at dkX0_hadAt_0 12 rfl) ?_
        refine lv_iload hx hb (dk_at dkX0_hadAt_0 13 rfl) (lv_at hl 0 rfl) ?_
        refine x_iald (Wf := WK cB cI cJ cZ cQ q) hx hb hK hP 17 1 (wkALw) rfl (by omega) (by decide) (dk_at dkX0_hadAt_0 14 rfl) (fun z13 hz13 => ?_)
        have rz13 : (-2147483648 : Int) ≤ z13 ∧ z13 ≤ 2147483647 := by rw [hz13]; exact irALw hI
        have gz13 := Hd.mk hz13
        refine lv_bipush (v := iI 20) hx hb (dk_at dkX0_hadAt_0 15 rfl) (by decide +kernel) ?_
        refine x_subv (v := z13 - 20) hx hb (dk_at dkX0_hadAt_1 0 rfl) (by omega) ?_
        refine x_absE (fun z14 gz14 hz14 => ?_)
        refine lv_istore (lv' := [(6, .int (iI z14)), (5, .int (iI z1)), (4, .int (iI z2)), (0, .ref (q 6)), (1, .ref (q ta)), (2, .int (iI x2)), (3, .int (iI x3))]) hx hb (dk_at dkX0_hadAt_1 1 rfl) hl (by decide) rfl (fun ls hl => ?_)
        refine lv_aload_n hx hb (dk_at dkX0_hadAt_1 2 rfl) rfl (lv_at hl 3 rfl) ?_
        refine va_get (D := (dC, dI)) (ci := 0) (v := .ref (q 17)) (C := RX0) (T := TX0) (N := 17) hx hb hts hiX0 hown hK hP 6 (wkAL) rfl 6 (by decide) (hts _ (List.mem_cons_of_mem _ wkq_0_31)) (fun _ h9 => h9) rfl (dk_at dkX0_hadAt_1 3 rfl) ?_
        refine lv_iload hx hb (dk_at dkX0_hadAt_1 4 rfl) (lv_at hl 1 rfl) ?_
        refine x_iald (Wf := WK cB cI cJ cZ cQ q) hx hb hK hP 17 1 (wkALw) rfl (by omega) (by decide) (dk_at dkX0_hadAt_1 5 rfl) (fun z15 hz15 => ?_)
        have rz15 : (-2147483648 : Int) ≤ z15 ∧ z15 ≤ 2147483647 := by rw [hz15]; exact irALw hI
        have gz15 := Hd.mk hz15
        have ez15 : z15 = z13 := hz15.trans hz13.symm
        refine tp_i (y := iI z13) (congrArg iI ez15) ?_
        refine lv_bipush (v := iI 10) hx hb (dk_at dkX0_hadAt_1 6 rfl) (by decide +kernel) ?_
        refine lv_iload_n hx hb (dk_at dkX0_hadAt_1 7 rfl) rfl (lv_at hl 5 rfl) ?_
        refine x_addv (v := x2 + 10) hx hb (dk_at dkX0_hadAt_1 8 rfl) (by omega) ?_
        refine x_absE (fun z16 gz16 hz16 => ?_)
        have J80_19 : ∀ (z31 : Int) (H : Heap) (locs : List Loc) (ls : Array Slot), (-2147483648 ≤ z31 ∧ z31 ≤ 2147483647) → (∀ (z : Int), (∃ mm1 : Nat, (d_X0_hadAt_3 (fun z1' z2' => d_X0_hadAt_1 ta x2 x3 A z mm1 z1' z2') z1 z z31)) → r_X0_hadAt ta x2 x3 A z) → va_P (dC, dI) vwCl (WK cB cI cJ cZ cQ q A) H → va_S AS s.heap H locs → lv_has ls 7 [(6, .int (iI z14)), (5, .int (iI z1)), (4, .int (iI z31)), (0, .ref (q 6)), (1, .ref (q ta)), (2, .int (iI x2)), (3, .int (iI x3))] → W p l e (headSpec ws_kc_X0_hadAt ({ frames := 1, cells := 0, slots := 0, locals := 22 } : Room)).room s m [.ref (q 6), .ref (q ta), .int (iI x2), .int (iI x3)].toArray below meth c H locs 0 0 Q (F0 m 80 ls []) := by
          intro z31 H locs ls f33 hk3 hP hS hl
          refine lv_iinc (v := iI (z1 + 1)) (lv' := [(5, .int (iI (z1 + 1))), (6, .int (iI z14)), (4, .int (iI z31)), (0, .ref (q 6)), (1, .ref (q ta)), (2, .int (iI x2)), (3, .int (iI x3))]) hx hb (dk_at dkX0_hadAt_2 13 rfl) hl (k := 1) rfl (i_inc (by omega)) (by decide) rfl (fun ls hl => ?_)
          refine lv_goto (tgt := 6) hx hb (dk_at dkX0_hadAt_2 14 rfl) (by decide) ?_
          exact ih5 _ (by omega) (z1 + 1) z31 _ _ _ (by omega) (by omega) (fun zq ⟨mm1, hq⟩ => hk3 _ ⟨mm1, (u_d_X0_hadAt_3 ⟨f33, hq⟩)⟩) rfl hP hS (lv_sub hl [0, 2, 3, 4, 5, 6] rfl)
        have J71_18 : ∀ (H : Heap) (locs : List Loc) (ls : Array Slot), (∀ (z : Int), (∃ mm1 : Nat, (d_X0_hadAt_2 (fun z1' z2' => d_X0_hadAt_1 ta x2 x3 A z mm1 z1' z2') z1 z2 z)) → r_X0_hadAt ta x2 x3 A z) → va_P (dC, dI) vwCl (WK cB cI cJ cZ cQ q A) H → va_S AS s.heap H locs → lv_has ls 7 [(6, .int (iI z14)), (5, .int (iI z1)), (4, .int (iI z2)), (0, .ref (q 6)), (1, .ref (q ta)), (2, .int (iI x2)), (3, .int (iI x3))] → W p l e (headSpec ws_kc_X0_hadAt ({ frames := 1, cells := 0, slots := 0, locals := 22 } : Room)).room s m [.ref (q 6), .ref (q ta), .int (iI x2), .int (iI x3)].toArray below meth c H locs 0 0 Q (F0 m 71 ls []) := by
          intro H locs ls hk2 hP hS hl
          refine lv_iload hx hb (dk_at dkX0_hadAt_2 7 rfl) (lv_at hl 2 rfl) ?_
          refine lv_iconst (v := iI 1) hx hb (dk_at dkX0_hadAt_2 8 rfl) (by decide +kernel) ?_
          refine lv_iload hx hb (dk_at dkX0_hadAt_2 9 rfl) (lv_at hl 1 rfl) ?_
          refine lv_ishl hx hb (dk_at dkX0_hadAt_2 10 rfl) ?_
          refine x_absE (fun z29 gz29 hz29 => ?_)
          refine lv_ior hx hb (dk_at dkX0_hadAt_2 11 rfl) ?_
          refine x_absE (fun z30 gz30 hz30 => ?_)
          refine lv_istore (lv' := [(4, .int (iI z30)), (6, .int (iI z14)), (5, .int (iI z1)), (0, .ref (q 6)), (1, .ref (q ta)), (2, .int (iI x2)), (3, .int (iI x3))]) hx hb (dk_at dkX0_hadAt_2 12 rfl) hl (by decide) rfl (fun ls hl => ?_)
          exact J80_19 z30 _ _ _ (by omega) (fun zq ⟨mm1, hq⟩ => hk2 _ ⟨mm1, (u_d_X0_hadAt_2 ⟨z29, gz29.out, ⟨z30, gz30.out, hq⟩⟩)⟩) hP hS (lv_sub hl [1, 2, 0, 3, 4, 5, 6] rfl)
        refine lv_icmp_eq (tgt := 71) hx hb (dk_at dkX0_hadAt_1 9 rfl) (by decide) (fun c17 => ?_) (fun c17 => ?_)
        · have c17 : z13 = z16 := (i_eq rz13 hz16).mp c17
          exact J71_18 _ _ _ (fun zq ⟨mm1, hq⟩ => hk1 _ ⟨mm1 + 1, (u_d_X0_hadAt_1 ⟨f6, ⟨f7, (Or.inr ⟨c11, ⟨z13, gz13.out, ⟨z14, gz14.out, ⟨z16, gz16.out, (Or.inl ⟨c17, hq⟩)⟩⟩⟩⟩)⟩⟩)⟩) hP hS (lv_sub hl [0, 1, 2, 3, 4, 5, 6] rfl)
        · have c17 : ¬ z13 = z16 := mt (i_eq rz13 hz16).mpr c17
          refine lv_iload hx hb (dk_at dkX0_hadAt_1 10 rfl) (lv_at hl 0 rfl) ?_
          refine lv_if_lt (tgt := 80) hx hb (dk_at dkX0_hadAt_1 11 rfl) (by decide) (fun c20 => ?_) (fun c20 => ?_)
          · have c20 : z14 < 0 := (i_lt0 hz14).mp c20
            exact J80_19 z2 _ _ _ (by omega) (fun zq ⟨mm1, hq⟩ => hk1 _ ⟨mm1 + 1, (u_d_X0_hadAt_1 ⟨f6, ⟨f7, (Or.inr ⟨c11, ⟨z13, gz13.out, ⟨z14, gz14.out, ⟨z16, gz16.out, (Or.inr ⟨c17, (Or.inl ⟨c20, hq⟩)⟩)⟩⟩⟩⟩)⟩⟩)⟩) hP hS (lv_sub hl [0, 1, 2, 3, 4, 5, 6] rfl)
          · have c20 : ¬ z14 < 0 := mt (i_lt0 hz14).mpr c20
            refine lv_aload_n hx hb (dk_at dkX0_hadAt_1 12 rfl) rfl (lv_at hl 4 rfl) ?_
            refine lv_iload hx hb (dk_at dkX0_hadAt_1 13 rfl) (lv_at hl 0 rfl) ?_
            refine lv_iload_n hx hb (dk_at dkX0_hadAt_1 14 rfl) rfl (lv_at hl 5 rfl) ?_
            refine k_calli (As := [.int (iI z14), .int (iI x2)]) (rest := []) ⟨hx, hb, hml, hown, hts⟩ hE (kc_X9_isAt l dC dI cB cI cJ cZ cQ aL aS q _ ta z14 x2 hI hta hz14 hx2) (cwV 2 hts (goodVk wkq_1_10 wkq_1_11 wkq_1_12 wkq_0_6 wkq_1_13) rfl rfl rfl (by decide +kernel) ⟨Nat.le_of_ble_eq_true rfl, Nat.le_of_ble_eq_true rfl⟩) hK hDD hA0 hP hS ta 9 (wkT hta) rfl rfl hl.1 (Nat.le_of_ble_eq_true rfl) (dk_at dkX0_hadAt_1 15 rfl) (fun z21 A22 H locs hw23 hP hS => ?_)
            obtain ⟨rfl, hw23⟩ := hw23
            have ghw23 : q_X9_isAt ta z14 x2 A z21 := hw23
            have hw23 := hw23.2
            have rz21 : 0 ≤ z21 ∧ z21 ≤ 1 := hw23.1
            have hw23 := hw23.2
            refine lv_if_eq (tgt := 80) hx hb (dk_at dkX0_hadAt_2 0 rfl) (by decide) (fun c24 => ?_) (fun c24 => ?_)
            · have c24 : z21 = 0 := (i_eq0 (rb rz21 (by decide) (by decide))).mp c24
              clear hw23
              exact J80_19 z2 _ _ _ (by omega) (fun zq ⟨mm1, hq⟩ => hk1 _ ⟨mm1 + 1, (u_d_X0_hadAt_1 ⟨f6, ⟨f7, (Or.inr ⟨c11, ⟨z13, gz13.out, ⟨z14, gz14.out, ⟨z16, gz16.out, (Or.inr ⟨c17, (Or.inr ⟨c20, ⟨z21, ghw23, (Or.inl ⟨c24, hq⟩)⟩⟩)⟩)⟩⟩⟩⟩)⟩⟩)⟩) hP hS (lv_sub hl [0, 1, 2, 3, 4, 5, 6] rfl)
            · have c24 : ¬ z21 = 0 := mt (i_eq0 (rb rz21 (by decide) (by decide))).mpr c24
              have hw23b := hw23 (by omega)
              clear hw23
              refine lv_iload_n hx hb (dk_at dkX0_hadAt_2 1 rfl) rfl (lv_at hl 6 rfl) ?_
              refine lv_iload hx hb (dk_at dkX0_hadAt_2 2 rfl) (lv_at hl 0 rfl) ?_
              refine lv_ishr hx hb (dk_at dkX0_hadAt_2 3 rfl) ?_
              refine x_absE (fun z25 gz25 hz25 => ?_)
              refine lv_iconst (v := iI 1) hx hb (dk_at dkX0_hadAt_2 4 rfl) (by decide +kernel) ?_
              refine lv_iand hx hb (dk_at dkX0_hadAt_2 5 rfl) ?_
              refine x_andE (b := 1) (by omega) (fun z26 gz26 hz26 => ?_)
              refine lv_if_ne (tgt := 80) hx hb (dk_at dkX0_hadAt_2 6 rfl) (by decide) (fun c27 => ?_) (fun c27 => ?_)
              · have c27 : ¬ z26 = 0 := mt (i_eq0 (by omega)).mpr c27
                exact J80_19 z2 _ _ _ (by omega) (fun zq ⟨mm1, hq⟩ => hk1 _ ⟨mm1 + 1, (u_d_X0_hadAt_1 ⟨f6, ⟨f7, (Or.inr ⟨c11, ⟨z13, gz13.out, ⟨z14, gz14.out, ⟨z16, gz16.out, (Or.inr ⟨c17, (Or.inr ⟨c20, ⟨z21, ghw23, (Or.inr ⟨c24, ⟨z25, gz25.out, ⟨z26, gz26.out, (Or.inl ⟨c27, hq⟩)⟩⟩⟩)⟩⟩)⟩)⟩⟩⟩⟩)⟩⟩)⟩) hP hS (lv_sub hl [0, 1, 2, 3, 4, 5, 6] rfl)
              · have c27 : z26 = 0 := (i_eq0 (by omega)).mp c27
                exact J71_18 _ _ _ (fun zq ⟨mm1, hq⟩ => hk1 _ ⟨mm1 + 1, (u_d_X0_hadAt_1 ⟨f6, ⟨f7, (Or.inr ⟨c11, ⟨z13, gz13.out, ⟨z14, gz14.out, ⟨z16, gz16.out, (Or.inr ⟨c17, (Or.inr ⟨c20, ⟨z21, ghw23, (Or.inr ⟨c24, ⟨z25, gz25.out, ⟨z26, gz26.out, (Or.inr ⟨c27, hq⟩)⟩⟩⟩)⟩⟩)⟩)⟩⟩⟩⟩)⟩⟩)⟩) hP hS (lv_sub hl [0, 1, 2, 3, 4, 5, 6] rfl)
  exact L6_4 _ 0 0 _ _ _ (by omega) (by omega) (fun zq ⟨mm1, hq⟩ => (u_r_X0_hadAt ⟨mm1, hq⟩)) rfl hP hS (lv_sub hl [0, 1, 2, 3, 4, 5] rfl)
theorem dkX0_markStart_0 : dkq cX0_markStart [(0, .iload_n 2, 1), (1, .istore 4, 2), (3, .iconst 0, 1), (4, .istore 5, 2), (6, .iload 5, 2), (8, .aload_n 1, 1), (9, .getfield 73, 3), (12, .iconst 2, 1), (13, .iaload, 1), (14, .if_icmp .ge 63, 3), (17, .aload_n 0, 1), (18, .getfield 24, 3), (21, .iload 5, 2), (23, .iconst 0, 1), (24, .iastore, 1), (25, .iload_n 3, 1)] = true := by decide +kernel
theorem dkX0_markStart_1 : dkq cX0_markStart [(26, .iload 5, 2), (28, .ishr, 1), (29, .iconst 1, 1), (30, .iand, 1), (31, .ifCond .eq 40, 3), (34, .aload_n 0, 1), (35, .getfield 24, 3), (38, .iload 5, 2), (40, .aload_n 1, 1), (41, .getfield 80, 3), (44, .getfield 142, 3), (47, .iload 5, 2), (49, .iaload, 1), (50, .iastore, 1), (51, .iload 4, 2), (53, .aload_n 0, 1)] = true := by decide +kernel
theorem dkX0_markStart_2 : dkq cX0_markStart [(54, .getfield 24, 3), (57, .iload 5, 2), (59, .iaload, 1), (60, .aload_n 0, 1), (61, .getfield 20, 3), (64, .iload 5, 2), (66, .iaload, 1), (67, .imul, 1), (68, .iadd, 1), (69, .istore 4, 2), (71, .iinc 5 1, 3), (74, .goto (-68), 3), (77, .aload_n 0, 1), (78, .iload 4, 2), (80, .aload_n 0, 1), (81, .aload_n 1, 1)] = true := by decide +kernel
theorem dkX0_markStart_3 : dkq cX0_markStart [(82, .iload_n 2, 1), (83, .aload_n 0, 1), (84, .aload_n 1, 1), (85, .invokevirtual 181, 3), (88, .invokevirtual 185, 3), (91, .aload_n 0, 1), (92, .getfield 46, 3), (95, .imul, 1), (96, .iadd, 1), (97, .invokevirtual 189, 3), (100, .return_, 1)] = true := by decide +kernel
theorem dkX0_advance_0 : dkq cX0_advance [(0, .aload_n 0, 1), (1, .getfield 36, 3), (4, .astore_n 1, 1), (5, .aload_n 0, 1), (6, .aload_n 0, 1), (7, .getfield 39, 3), (10, .putfield 36, 3), (13, .aload_n 0, 1), (14, .aload_n 1, 1), (15, .putfield 39, 3), (18, .iconst 0, 1), (19, .istore_n 2, 1), (20, .iconst 0, 1), (21, .istore_n 3, 1), (22, .iload_n 3, 1), (23, .sipush 1201, 3)] = true := by decide +kernel
theorem dkX0_advance_1 : dkq cX0_advance [(26, .if_icmp .ge 40, 3), (29, .iload_n 3, 1), (30, .bipush 64, 2), (32, .imul, 1), (33, .aload_n 0, 1), (34, .getfield 49, 3), (37, .if_icmp .ge 29, 3), (40, .aload_n 0, 1), (41, .getfield 39, 3), (44, .iload_n 3, 1), (45, .lconst 0, 1), (46, .lastore, 1), (47, .aload_n 0, 1), (48, .getfield 36, 3), (51, .iload_n 3, 1), (52, .laload, 1)] = true := by decide +kernel
theorem dkX0_advance_2 : dkq cX0_advance [(53, .lconst 0, 1), (54, .lcmp, 1), (55, .ifCond .eq 5, 3), (58, .iconst 1, 1), (59, .istore_n 2, 1), (60, .iinc 3 1, 3), (63, .goto (-41), 3), (66, .iload_n 2, 1), (67, .ireturn, 1)] = true := by decide +kernel
theorem dkX0_searchLevel_0 : dkq cX0_searchLevel [(0, .iconst 0, 1), (1, .istore_n 2, 1), (2, .iload_n 2, 1), (3, .sipush 1201, 3), (6, .if_icmp .ge 78, 3), (9, .iload_n 2, 1), (10, .bipush 64, 2), (12, .imul, 1), (13, .aload_n 0, 1), (14, .getfield 49, 3), (17, .if_icmp .ge 67, 3), (20, .aload_n 0, 1), (21, .getfield 36, 3), (24, .iload_n 2, 1), (25, .laload, 1), (26, .lstore_n 3, 1)] = true := by decide +kernel
theorem dkX0_searchLevel_1 : dkq cX0_searchLevel [(27, .iconst 0, 1), (28, .istore 5, 2), (30, .iload 5, 2), (32, .bipush 64, 2), (34, .if_icmp .ge 44, 3), (37, .lload_n 3, 1), (38, .lconst 0, 1), (39, .lcmp, 1), (40, .ifCond .eq 38, 3), (43, .lload_n 3, 1), (44, .lconst 1, 1), (45, .land, 1), (46, .lconst 0, 1), (47, .lcmp, 1), (48, .ifCond .eq 20, 3), (51, .aload_n 0, 1)] = true := by decide +kernel
theorem dkX0_searchLevel_2 : dkq cX0_searchLevel [(52, .aload_n 1, 1), (53, .iload_n 2, 1), (54, .bipush 64, 2), (56, .imul, 1), (57, .iload 5, 2), (59, .iadd, 1), (60, .invokevirtual 193, 3), (63, .ifCond .eq 5, 3), (66, .iconst 1, 1), (67, .ireturn, 1), (68, .lload_n 3, 1), (69, .iconst 1, 1), (70, .lushr, 1), (71, .lstore_n 3, 1), (72, .iinc 5 1, 3), (75, .goto (-45), 3)] = true := by decide +kernel
theorem dkX0_searchLevel_3 : dkq cX0_searchLevel [(78, .iinc 2 1, 3), (81, .goto (-79), 3), (84, .iconst 0, 1), (85, .ireturn, 1)] = true := by decide +kernel
theorem dkX0_visit_0 : dkq cX0_visit [(0, .aload_n 1, 1), (1, .getfield 73, 3), (4, .iconst 0, 1), (5, .iaload, 1), (6, .istore_n 3, 1), (7, .iload_n 3, 1), (8, .iconst 1, 1), (9, .if_icmp .lt 11, 3), (12, .aload_n 0, 1), (13, .getfield 46, 3), (16, .iconst 1, 1), (17, .if_icmp .ge 5, 3), (20, .iconst 0, 1), (21, .ireturn, 1), (22, .iconst 0, 1), (23, .istore 4, 2)] = true := by decide +kernel
theorem dkX0_visit_1 : dkq cX0_visit [(25, .iload 4, 2), (27, .aload_n 1, 1), (28, .getfield 73, 3), (31, .iconst 2, 1), (32, .iaload, 1), (33, .if_icmp .ge 53, 3), (36, .aload_n 0, 1), (37, .getfield 24, 3), (40, .iload 4, 2), (42, .aload_n 0, 1), (43, .getfield 20, 3), (46, .iload 4, 2), (48, .iaload, 1), (49, .iconst 1, 1), (50, .if_icmp .ge 7, 3), (53, .iconst 0, 1)] = true := by decide +kernel
theorem dkX0_visit_2 : dkq cX0_visit [(54, .goto 25, 3), (57, .iload_n 2, 1), (58, .aload_n 0, 1), (59, .getfield 20, 3), (62, .iload 4, 2), (64, .iaload, 1), (65, .idiv, 1), (66, .aload_n 1, 1), (67, .getfield 80, 3), (70, .getfield 142, 3), (73, .iload 4, 2), (75, .iaload, 1), (76, .iconst 1, 1), (77, .iadd, 1), (78, .irem, 1), (79, .iastore, 1)] = true := by decide +kernel
theorem dkX0_visit_3 : dkq cX0_visit [(80, .iinc 4 1, 3), (83, .goto (-58), 3), (86, .iload_n 2, 1), (87, .iload_n 3, 1), (88, .irem, 1), (89, .istore 4, 2), (91, .iload_n 2, 1), (92, .aload_n 0, 1), (93, .getfield 46, 3), (96, .idiv, 1), (97, .istore 5, 2), (99, .aload_n 0, 1), (100, .aload_n 1, 1), (101, .invokevirtual 181, 3), (104, .istore 6, 2), (106, .aload_n 0, 1)] = true := by decide +kernel
theorem dkX0_visit_4 : dkq cX0_visit [(107, .dup, 1), (108, .getfield 61, 3), (111, .iconst 1, 1), (112, .iload 4, 2), (114, .ishl, 1), (115, .ior, 1), (116, .putfield 61, 3), (119, .aload_n 0, 1), (120, .iload 4, 2), (122, .iload 6, 2), (124, .iload 5, 2), (126, .invokevirtual 197, 3), (129, .ifCond .eq 5, 3), (132, .iconst 1, 1), (133, .ireturn, 1), (134, .aload_n 0, 1)] = true := by decide +kernel
theorem dkX0_visit_5 : dkq cX0_visit [(135, .aload_n 1, 1), (136, .iload_n 2, 1), (137, .iload 4, 2), (139, .iload 5, 2), (141, .iload 6, 2), (143, .invokevirtual 201, 3), (146, .aload_n 0, 1), (147, .aload_n 1, 1), (148, .iload_n 2, 1), (149, .iload 4, 2), (151, .iload 5, 2), (153, .invokevirtual 205, 3), (156, .iconst 0, 1), (157, .ireturn, 1)] = true := by decide +kernel
theorem dkX0_isGoal_0 : dkq cX0_isGoal [(0, .aload_n 0, 1), (1, .getfield 55, 3), (4, .tableswitch 77 0 2 #[28, 42, 59], 28), (32, .iload_n 1, 1), (33, .aload_n 0, 1), (34, .getfield 58, 3), (37, .if_icmp .ne 7, 3), (40, .iconst 1, 1), (41, .goto 4, 3), (44, .iconst 0, 1), (45, .ireturn, 1), (46, .iload_n 2, 1), (47, .aload_n 0, 1), (48, .getfield 58, 3), (51, .ishr, 1), (52, .iconst 1, 1)] = true := by decide +kernel
theorem dkX0_isGoal_1 : dkq cX0_isGoal [(53, .iand, 1), (54, .ifCond .ne 7, 3), (57, .iconst 1, 1), (58, .goto 4, 3), (61, .iconst 0, 1), (62, .ireturn, 1), (63, .iload_n 3, 1), (64, .iconst 1, 1), (65, .aload_n 0, 1), (66, .getfield 42, 3), (69, .ishl, 1), (70, .iconst 1, 1), (71, .isub, 1), (72, .if_icmp .ne 7, 3), (75, .iconst 1, 1), (76, .goto 4, 3)] = true := by decide +kernel
theorem dkX0_isGoal_2 : dkq cX0_isGoal [(79, .iconst 0, 1), (80, .ireturn, 1), (81, .aload_n 0, 1), (82, .getfield 61, 3), (85, .aload_n 0, 1), (86, .getfield 58, 3), (89, .if_icmp .ne 7, 3), (92, .iconst 1, 1), (93, .goto 4, 3), (96, .iconst 0, 1), (97, .ireturn, 1)] = true := by decide +kernel
theorem dkX0_markGoing_0 : dkq cX0_markGoing [(0, .iload_n 3, 1), (1, .bipush 11, 2), (3, .imul, 1), (4, .iload 5, 2), (6, .invokestatic 104, 3), (9, .iadd, 1), (10, .istore 6, 2), (12, .iload_n 3, 1), (13, .ifCond .lt 16, 3), (16, .iload_n 3, 1), (17, .bipush 8, 2), (19, .if_icmp .ge 10, 3), (22, .iload 6, 2), (24, .bipush 88, 2), (26, .if_icmp .lt 4, 3), (29, .return_, 1)] = true := by decide +kernel
theorem dkX0_markGoing_1 : dkq cX0_markGoing [(30, .aload_n 0, 1), (31, .getfield 27, 3), (34, .iload_n 3, 1), (35, .iaload, 1), (36, .iload 5, 2), (38, .iconst (-1), 1), (39, .ixor, 1), (40, .iand, 1), (41, .aload_n 0, 1), (42, .getfield 30, 3), (45, .iload 6, 2), (47, .iaload, 1), (48, .iconst (-1), 1), (49, .ixor, 1), (50, .iand, 1), (51, .istore 7, 2)] = true := by decide +kernel
theorem dkX0_markGoing_2 : dkq cX0_markGoing [(53, .iconst 0, 1), (54, .istore 8, 2), (56, .iload 8, 2), (58, .bipush 10, 2), (60, .if_icmp .ge 70, 3), (63, .iload 7, 2), (65, .iload 8, 2), (67, .ishr, 1), (68, .ifCond .eq 62, 3), (71, .iload 7, 2), (73, .iload 8, 2), (75, .ishr, 1), (76, .iconst 1, 1), (77, .iand, 1), (78, .ifCond .eq 46, 3), (81, .aload_n 1, 1)] = true := by decide +kernel
theorem dkX0_markGoing_3 : dkq cX0_markGoing [(82, .iload 8, 2), (84, .iload_n 3, 1), (85, .invokevirtual 209, 3), (88, .istore 9, 2), (90, .aload_n 0, 1), (91, .aload_n 1, 1), (92, .iload 9, 2), (94, .iload 5, 2), (96, .invokevirtual 185, 3), (99, .iload 4, 2), (101, .iconst (-1), 1), (102, .ixor, 1), (103, .iand, 1), (104, .istore 10, 2), (106, .aload_n 0, 1), (107, .iload_n 2, 1)] = true := by decide +kernel
theorem dkX0_markGoing_4 : dkq cX0_markGoing [(108, .iload 9, 2), (110, .iadd, 1), (111, .iload_n 3, 1), (112, .isub, 1), (113, .iload 10, 2), (115, .aload_n 0, 1), (116, .getfield 46, 3), (119, .imul, 1), (120, .iadd, 1), (121, .invokevirtual 189, 3), (124, .iinc 8 1, 3), (127, .goto (-71), 3), (130, .return_, 1)] = true := by decide +kernel
theorem dkX0_markOpening_0 : dkq cX0_markOpening [(0, .iconst 0, 1), (1, .istore 5, 2), (3, .iload 5, 2), (5, .aload_n 1, 1), (6, .getfield 73, 3), (9, .iconst 2, 1), (10, .iaload, 1), (11, .if_icmp .ge 116, 3), (14, .aload_n 0, 1), (15, .getfield 20, 3), (18, .iload 5, 2), (20, .iaload, 1), (21, .ifCond .le 100, 3), (24, .aload_n 0, 1), (25, .getfield 24, 3), (28, .iload 5, 2)] = true := by decide +kernel
theorem dkX0_markOpening_1 : dkq cX0_markOpening [(30, .iaload, 1), (31, .ifCond .le 90, 3), (34, .aload_n 1, 1), (35, .aload_n 1, 1), (36, .getfield 80, 3), (39, .iload 5, 2), (41, .aload_n 0, 1), (42, .getfield 24, 3), (45, .iload 5, 2), (47, .iaload, 1), (48, .iconst 1, 1), (49, .isub, 1), (50, .invokevirtual 212, 3), (53, .iload_n 3, 1), (54, .invokevirtual 159, 3), (57, .ifCond .eq 64, 3)] = true := by decide +kernel
theorem dkX0_markOpening_2 : dkq cX0_markOpening [(60, .aload_n 0, 1), (61, .getfield 24, 3), (64, .iload 5, 2), (66, .dup2, 1), (67, .iaload, 1), (68, .iconst 1, 1), (69, .isub, 1), (70, .iastore, 1), (71, .aload_n 0, 1), (72, .aload_n 1, 1), (73, .iload_n 3, 1), (74, .aload_n 0, 1), (75, .aload_n 1, 1), (76, .invokevirtual 181, 3), (79, .invokevirtual 185, 3), (82, .iload 4, 2)] = true := by decide +kernel
theorem dkX0_markOpening_3 : dkq cX0_markOpening [(84, .iconst (-1), 1), (85, .ixor, 1), (86, .iand, 1), (87, .istore 6, 2), (89, .aload_n 0, 1), (90, .getfield 24, 3), (93, .iload 5, 2), (95, .dup2, 1), (96, .iaload, 1), (97, .iconst 1, 1), (98, .iadd, 1), (99, .iastore, 1), (100, .aload_n 0, 1), (101, .iload_n 2, 1), (102, .aload_n 0, 1), (103, .getfield 20, 3)] = true := by decide +kernel
theorem dkX0_markOpening_4 : dkq cX0_markOpening [(106, .iload 5, 2), (108, .iaload, 1), (109, .isub, 1), (110, .iload 6, 2), (112, .aload_n 0, 1), (113, .getfield 46, 3), (116, .imul, 1), (117, .iadd, 1), (118, .invokevirtual 189, 3), (121, .iinc 5 1, 3), (124, .goto (-121), 3), (127, .return_, 1)] = true := by decide +kernel
theorem dkX0_mark_0 : dkq cX0_mark [(0, .iload_n 1, 1), (1, .ifCond .lt 11, 3), (4, .iload_n 1, 1), (5, .aload_n 0, 1), (6, .getfield 49, 3), (9, .if_icmp .lt 4, 3), (12, .return_, 1), (13, .iload_n 1, 1), (14, .bipush 64, 2), (16, .idiv, 1), (17, .istore_n 2, 1), (18, .lconst 1, 1), (19, .iload_n 1, 1), (20, .bipush 64, 2), (22, .irem, 1), (23, .lshl, 1)] = true := by decide +kernel
theorem dkX0_mark_1 : dkq cX0_mark [(24, .lstore_n 3, 1), (25, .aload_n 0, 1), (26, .getfield 11, 3), (29, .iload_n 2, 1), (30, .laload, 1), (31, .lload_n 3, 1), (32, .land, 1), (33, .lconst 0, 1), (34, .lcmp, 1), (35, .ifCond .ne 23, 3), (38, .aload_n 0, 1), (39, .getfield 11, 3), (42, .iload_n 2, 1), (43, .dup2, 1), (44, .laload, 1), (45, .lload_n 3, 1)] = true := by decide +kernel
theorem dkX0_mark_2 : dkq cX0_mark [(46, .lor, 1), (47, .lastore, 1), (48, .aload_n 0, 1), (49, .getfield 39, 3), (52, .iload_n 2, 1), (53, .dup2, 1), (54, .laload, 1), (55, .lload_n 3, 1), (56, .lor, 1), (57, .lastore, 1), (58, .return_, 1)] = true := by decide +kernel
theorem dkX9_otherSide_0 : dkq cX9_otherSide [(0, .aload_n 0, 1), (1, .iconst 1, 1), (2, .iload_n 1, 1), (3, .invokevirtual 90, 3), (6, .ifCond .ne 5, 3), (9, .iconst (-1), 1), (10, .ireturn, 1), (11, .aload_n 0, 1), (12, .getfield 20, 3), (15, .iload_n 1, 1), (16, .iaload, 1), (17, .iload_n 2, 1), (18, .if_icmp .ne 12, 3), (21, .aload_n 0, 1), (22, .getfield 23, 3), (25, .iload_n 1, 1)] = true := by decide +kernel
theorem dkX9_otherSide_1 : dkq cX9_otherSide [(26, .iaload, 1), (27, .goto 9, 3), (30, .aload_n 0, 1), (31, .getfield 20, 3), (34, .iload_n 1, 1), (35, .iaload, 1), (36, .ireturn, 1)] = true := by decide +kernel
