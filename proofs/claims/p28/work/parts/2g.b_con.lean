abbrev tr_r_X7_at (x1 : Int) (A : St) (z : Int) : Prop := (((x1 < 0) ∧ (z = (-1))) ∨ ((¬ x1 < 0) ∧ ((((A 1 1) ≤ x1) ∧ (z = (-1))) ∨ ((¬ (A 1 1) ≤ x1) ∧ (∃ z5 : Int, z5 = A 2 (x1).toNat ∧ (∃ z6 : Int, z6 = oAnd z5 255 ∧ (z = z6)))))))
def r_X7_at (x1 : Int) (A : St) (z : Int) : Prop := tr_r_X7_at x1 A z
theorem u_r_X7_at {x1 : Int} {A : St} {z : Int} (h : tr_r_X7_at x1 A z) : r_X7_at x1 A z := h
def q_X7_at (x1 : Int) (A : St) (z : Int) : Prop := r_X7_at x1 A z ∧ (-1 ≤ z ∧ z ≤ 255)
def ws_kc_X7_at : List Cond := .code yX7_at cX7_at 2 (some .int) :: WY
set_option maxHeartbeats 4000000 in
set_option maxRecDepth 100000 in
theorem kc_X7_at (l : Launch) (dC : Nat → ClassId) (dI : Nat → Nat → Nat) (cB cI cJ cZ cQ : ClassId) (aL aS : Nat) (q : Nat → Nat) (A : St) (x1 : Int) (hI : IK A) (hx1 : (-2147483648 : Int) ≤ x1 ∧ x1 ≤ 2147483647) : KMi l yX7_at ws_kc_X7_at ({ frames := 0, cells := 0, slots := 0, locals := 0 } : Room) aL aS (dC, dI) (tyA cB cI cJ cZ cQ) (WK cB cI cJ cZ cQ q) A [.ref (q 1), .int (iI x1)] (fun z u => A = u ∧ r_X7_at x1 A z ∧ (-1 ≤ z ∧ z ≤ 255)) := by
  refine k_meti (cc := cX7_at) (maxL := 2) WK_adr (plainFor_of_name (by decide +kernel)) rfl (Nat.le_of_ble_eq_true rfl) (fun p e s m below meth c Q AS ls hx hb hml hown hts hK hDD hA0 hE RET H locs hP hS hl => ?_)
  have hown : s.vm.findClass RX7 = some m.cls := hown
  have hl : lv_has ls 2 [(0, .ref (q 1)), (1, .int (iI x1))] := hl
  have hiX7 : ∀ w ∈ u_ws RX7 TX7 2, w ∈ ws_kc_X7_at := fun w h => List.mem_cons_of_mem _ (wy_layX7 w h)
  refine lv_iload_n hx hb (dk_at dkX7_at_0 0 rfl) rfl (lv_at hl 1 rfl) ?_
  refine lv_if_lt (tgt := 32) hx hb (dk_at dkX7_at_0 1 rfl) (by decide) (fun c1 => ?_) (fun c1 => ?_)
  · have c1 : x1 < 0 := (i_lt0 hx1).mp c1
    refine lv_iconst (v := iI (-1)) hx hb (dk_at dkX7_at_1 0 rfl) (by decide +kernel) ?_
    exact RET (-1) _ _ _ _ _ ⟨rfl, (u_r_X7_at (Or.inl ⟨c1, rfl⟩)), by omega⟩ hP hS (dk_at dkX7_at_1 1 rfl)
  · have c1 : ¬ x1 < 0 := mt (i_lt0 hx1).mpr c1
    refine lv_iload_n hx hb (dk_at dkX7_at_0 2 rfl) rfl (lv_at hl 1 rfl) ?_
    refine lv_aload_n hx hb (dk_at dkX7_at_0 3 rfl) rfl (lv_at hl 0 rfl) ?_
    have r2 : (0 : Int) ≤ (A 1 1) ∧ (A 1 1) ≤ 1600 := irTP_1 hI
    refine va_get (D := (dC, dI)) (ci := 7) (v := .int (iI (A 1 1))) (C := RX7) (T := TX7) (N := 2) hx hb hts hiX7 hown hK hP 1 (wkTP) rfl 1 (by decide) (hts _ (List.mem_cons_of_mem _ wkq_4_43)) (fun _ h9 => h9) rfl (dk_at dkX7_at_0 4 rfl) ?_
    refine lv_icmp_ge (tgt := 32) hx hb (dk_at dkX7_at_0 5 rfl) (by decide) (fun c3 => ?_) (fun c3 => ?_)
    · have c3 : (A 1 1) ≤ x1 := (i_le (rb r2 (by decide) (by decide)) hx1).mp c3
      refine lv_iconst (v := iI (-1)) hx hb (dk_at dkX7_at_1 0 rfl) (by decide +kernel) ?_
      exact RET (-1) _ _ _ _ _ ⟨rfl, (u_r_X7_at (Or.inr ⟨c1, (Or.inl ⟨c3, rfl⟩)⟩)), by omega⟩ hP hS (dk_at dkX7_at_1 1 rfl)
    · have c3 : ¬ (A 1 1) ≤ x1 := mt (i_le (rb r2 (by decide) (by decide)) hx1).mpr c3
      refine lv_iload_n hx hb (dk_at dkX7_at_0 6 rfl) rfl (lv_at hl 1 rfl) ?_
      refine lv_sipush (v := iI 1600) hx hb (dk_at dkX7_at_0 7 rfl) (by decide +kernel) ?_
      refine lv_icmp_ge (tgt := 32) hx hb (dk_at dkX7_at_0 8 rfl) (by decide) (fun c4 => False.elim (by have c4 : 1600 ≤ x1 := (i_le ⟨by decide, by decide⟩ hx1).mp c4; omega)) (fun _ => ?_)
      refine lv_aload_n hx hb (dk_at dkX7_at_0 9 rfl) rfl (lv_at hl 0 rfl) ?_
      refine va_get (D := (dC, dI)) (ci := 7) (v := .ref (q 2)) (C := RX7) (T := TX7) (N := 2) hx hb hts hiX7 hown hK hP 1 (wkTP) rfl 0 (by decide) (hts _ (List.mem_cons_of_mem _ wkq_4_44)) (fun _ h9 => h9) rfl (dk_at dkX7_at_0 10 rfl) ?_
      refine lv_iload_n hx hb (dk_at dkX7_at_0 11 rfl) rfl (lv_at hl 1 rfl) ?_
      refine k_bald (Wf := WK cB cI cJ cZ cQ q) hx hb hK hP 2 0 (wkTPb) rfl (by omega) (by decide) (dk_at dkX7_at_0 12 rfl) (fun z5 hz5 => ?_)
      have rz5 : (-128 : Int) ≤ z5 ∧ z5 ≤ 127 := by rw [hz5]; exact irTPb hI
      have gz5 := Hd.mk hz5
      refine lv_sipush (v := iI 255) hx hb (dk_at dkX7_at_0 13 rfl) (by decide +kernel) ?_
      refine lv_iand hx hb (dk_at dkX7_at_0 14 rfl) ?_
      refine x_andE (b := 255) (by omega) (fun z6 gz6 hz6 => ?_)
      refine lv_goto (tgt := 33) hx hb (dk_at dkX7_at_0 15 rfl) (by decide) ?_
      exact RET z6 _ _ _ _ _ ⟨rfl, (u_r_X7_at (Or.inr ⟨c1, (Or.inr ⟨c3, ⟨z5, gz5.out, ⟨z6, gz6.out, rfl⟩⟩⟩)⟩)), by omega⟩ hP hS (dk_at dkX7_at_1 1 rfl)

abbrev tr_r_X4_isWhere (ta : Nat) (x2 : Int) (A : St) (z : Int) : Prop := (∃ z1 : Int, q_X9_isThere_1_3 ta x2 A z1 ∧ (((¬ z1 = 0) ∧ (z = 1)) ∨ ((z1 = 0) ∧ (∃ z5 : Int, z5 = oWrap (x2 - 10) ∧ (∃ z6 : Int, q_X9_isThere_1_0 ta z5 A z6 ∧ (((¬ z6 = 0) ∧ (z = 1)) ∨ ((z6 = 0) ∧ (∃ z10 : Int, z10 = oWrap (x2 - 20) ∧ (∃ z11 : Int, q_X9_isBox ta z10 A z11 ∧ (((¬ z11 = 0) ∧ (z = 1)) ∨ ((z11 = 0) ∧ (((¬ x2 = 40) ∧ (z = 0)) ∨ ((x2 = 40) ∧ (z = 1))))))))))))))
def r_X4_isWhere (ta : Nat) (x2 : Int) (A : St) (z : Int) : Prop := tr_r_X4_isWhere ta x2 A z
theorem u_r_X4_isWhere {ta : Nat} {x2 : Int} {A : St} {z : Int} (h : tr_r_X4_isWhere ta x2 A z) : r_X4_isWhere ta x2 A z := h
def q_X4_isWhere (ta : Nat) (x2 : Int) (A : St) (z : Int) : Prop := r_X4_isWhere ta x2 A z ∧ (0 ≤ z ∧ z ≤ 1)
def ws_kc_X4_isWhere : List Cond := .code yX4_isWhere cX4_isWhere 2 (some .boolean) :: WY
set_option maxHeartbeats 4000000 in
set_option maxRecDepth 100000 in
theorem kc_X4_isWhere (l : Launch) (dC : Nat → ClassId) (dI : Nat → Nat → Nat) (cB cI cJ cZ cQ : ClassId) (aL aS : Nat) (q : Nat → Nat) (A : St) (ta : Nat) (x2 : Int) (hI : IK A) (hta : isT ta) (hx2 : (-2147483648 : Int) ≤ x2 ∧ x2 ≤ 2147483647) : KMi l yX4_isWhere ws_kc_X4_isWhere ({ frames := 1, cells := 0, slots := 0, locals := 22 } : Room) aL aS (dC, dI) (tyA cB cI cJ cZ cQ) (WK cB cI cJ cZ cQ q) A [.ref (q ta), .int (iI x2)] (fun z u => A = u ∧ r_X4_isWhere ta x2 A z ∧ (0 ≤ z ∧ z ≤ 1)) := by
  refine k_metz (cc := cX4_isWhere) (maxL := 2) WK_adr (plainFor_of_name (by decide +kernel)) rfl (Nat.le_of_ble_eq_true rfl) (fun z u h => h.2.2) (fun p e s m below meth c Q AS ls hx hb hml hown hts hK hDD hA0 hE RET H locs hP hS hl => ?_)
  have hown : s.vm.findClass RX4 = some m.cls := hown
  have hl : lv_has ls 2 [(0, .ref (q ta)), (1, .int (iI x2))] := hl
  refine lv_aload_n hx hb (dk_at dkX4_isWhere_0 0 rfl) rfl (lv_at hl 0 rfl) ?_
  refine lv_iconst (v := iI 3) hx hb (dk_at dkX4_isWhere_0 1 rfl) (by decide +kernel) ?_
  refine lv_iload_n hx hb (dk_at dkX4_isWhere_0 2 rfl) rfl (lv_at hl 1 rfl) ?_
  refine k_calli (As := [.int (iI 3), .int (iI x2)]) (rest := []) ⟨hx, hb, hml, hown, hts⟩ hE (kc_X9_isThere_1_3 l dC dI cB cI cJ cZ cQ aL aS q _ ta x2 hI hta hx2) (cwV 2 hts (goodVk wkq_4_45 wkq_0_22 wkq_0_23 wkq_0_6 wkq_0_24) rfl rfl rfl (by decide +kernel) ⟨Nat.le_of_ble_eq_true rfl, Nat.le_of_ble_eq_true rfl⟩) hK hDD hA0 hP hS ta 9 (wkT hta) rfl rfl hl.1 (Nat.le_of_ble_eq_true rfl) (dk_at dkX4_isWhere_0 3 rfl) (fun z1 A2 H locs hw3 hP hS => ?_)
  obtain ⟨rfl, hw3⟩ := hw3
  have ghw3 : q_X9_isThere_1_3 ta x2 A z1 := hw3
  have hw3 := hw3.2
  have rz1 : 0 ≤ z1 ∧ z1 ≤ 1 := hw3.1
  have hw3 := hw3.2
  refine lv_if_ne (tgt := 38) hx hb (dk_at dkX4_isWhere_0 4 rfl) (by decide) (fun c4 => ?_) (fun c4 => ?_)
  · have c4 : ¬ z1 = 0 := mt (i_eq0 (rb rz1 (by decide) (by decide))).mpr c4
    have hw3b := hw3 (by omega)
    clear hw3
    refine lv_iconst (v := iI 1) hx hb (dk_at dkX4_isWhere_1 5 rfl) (by decide +kernel) ?_
    refine lv_goto (tgt := 43) hx hb (dk_at dkX4_isWhere_1 6 rfl) (by decide) ?_
    exact RET 1 _ _ _ _ _ ⟨rfl, (u_r_X4_isWhere ⟨z1, ghw3, (Or.inl ⟨c4, rfl⟩)⟩), ⟨by decide, by decide⟩⟩ hP hS (dk_at dkX4_isWhere_1 8 rfl)
  · have c4 : z1 = 0 := (i_eq0 (rb rz1 (by decide) (by decide))).mp c4
    clear hw3
    refine lv_aload_n hx hb (dk_at dkX4_isWhere_0 5 rfl) rfl (lv_at hl 0 rfl) ?_
    refine lv_iconst (v := iI 0) hx hb (dk_at dkX4_isWhere_0 6 rfl) (by decide +kernel) ?_
    refine lv_iload_n hx hb (dk_at dkX4_isWhere_0 7 rfl) rfl (lv_at hl 1 rfl) ?_
    refine lv_bipush (v := iI 10) hx hb (dk_at dkX4_isWhere_0 8 rfl) (by decide +kernel) ?_
    refine x_subv (v := x2 - 10) hx hb (dk_at dkX4_isWhere_0 9 rfl) (by omega) ?_
    refine x_absE (fun z5 gz5 hz5 => ?_)
    refine k_calli (As := [.int (iI 0), .int (iI z5)]) (rest := []) ⟨hx, hb, hml, hown, hts⟩ hE (kc_X9_isThere_1_0 l dC dI cB cI cJ cZ cQ aL aS q _ ta z5 hI hta hz5) (cwV 2 hts (goodVk wkq_4_45 wkq_0_22 wkq_0_23 wkq_0_6 wkq_0_24) rfl rfl rfl (by decide +kernel) ⟨Nat.le_of_ble_eq_true rfl, Nat.le_of_ble_eq_true rfl⟩) hK hDD hA0 hP hS ta 9 (wkT hta) rfl rfl hl.1 (Nat.le_of_ble_eq_true rfl) (dk_at dkX4_isWhere_0 10 rfl) (fun z6 A7 H locs hw8 hP hS => ?_)
    obtain ⟨rfl, hw8⟩ := hw8
    have ghw8 : q_X9_isThere_1_0 ta z5 A z6 := hw8
    have hw8 := hw8.2
    have rz6 : 0 ≤ z6 ∧ z6 ≤ 1 := hw8.1
    have hw8 := hw8.2
    refine lv_if_ne (tgt := 38) hx hb (dk_at dkX4_isWhere_0 11 rfl) (by decide) (fun c9 => ?_) (fun c9 => ?_)
    · have c9 : ¬ z6 = 0 := mt (i_eq0 (rb rz6 (by decide) (by decide))).mpr c9
      have hw8b := hw8 (by omega)
      clear hw8
      refine lv_iconst (v := iI 1) hx hb (dk_at dkX4_isWhere_1 5 rfl) (by decide +kernel) ?_
      refine lv_goto (tgt := 43) hx hb (dk_at dkX4_isWhere_1 6 rfl) (by decide) ?_
      exact RET 1 _ _ _ _ _ ⟨rfl, (u_r_X4_isWhere ⟨z1, ghw3, (Or.inr ⟨c4, ⟨z5, gz5.out, ⟨z6, ghw8, (Or.inl ⟨c9, rfl⟩)⟩⟩⟩)⟩), ⟨by decide, by decide⟩⟩ hP hS (dk_at dkX4_isWhere_1 8 rfl)
    · have c9 : z6 = 0 := (i_eq0 (rb rz6 (by decide) (by decide))).mp c9
      clear hw8
      refine lv_aload_n hx hb (dk_at dkX4_isWhere_0 12 rfl) rfl (lv_at hl 0 rfl) ?_
      refine lv_iload_n hx hb (dk_at dkX4_isWhere_0 13 rfl) rfl (lv_at hl 1 rfl) ?_
      refine lv_bipush (v := iI 20) hx hb (dk_at dkX4_isWhere_0 14 rfl) (by decide +kernel) ?_
      refine x_subv (v := x2 - 20) hx hb (dk_at dkX4_isWhere_0 15 rfl) (by omega) ?_
      refine x_absE (fun z10 gz10 hz10 => ?_)
      refine k_calli (As := [.int (iI z10)]) (rest := []) ⟨hx, hb, hml, hown, hts⟩ hE (kc_X9_isBox l dC dI cB cI cJ cZ cQ aL aS q _ ta z10 hI hta hz10) (cwV 1 hts (goodVk wkq_4_53 wkq_1_6 wkq_1_7 wkq_0_6 wkq_1_8) rfl rfl rfl (by decide +kernel) ⟨Nat.le_of_ble_eq_true rfl, Nat.le_of_ble_eq_true rfl⟩) hK hDD hA0 hP hS ta 9 (wkT hta) rfl rfl hl.1 (Nat.le_of_ble_eq_true rfl) (dk_at dkX4_isWhere_1 0 rfl) (fun z11 A12 H locs hw13 hP hS => ?_)
      obtain ⟨rfl, hw13⟩ := hw13
      have ghw13 : q_X9_isBox ta z10 A z11 := hw13
      have hw13 := hw13.2
      have rz11 : 0 ≤ z11 ∧ z11 ≤ 1 := hw13.1
      have hw13 := hw13.2
      refine lv_if_ne (tgt := 38) hx hb (dk_at dkX4_isWhere_1 1 rfl) (by decide) (fun c14 => ?_) (fun c14 => ?_)
      · have c14 : ¬ z11 = 0 := mt (i_eq0 (rb rz11 (by decide) (by decide))).mpr c14
        have hw13b := hw13 (by omega)
        clear hw13
        refine lv_iconst (v := iI 1) hx hb (dk_at dkX4_isWhere_1 5 rfl) (by decide +kernel) ?_
        refine lv_goto (tgt := 43) hx hb (dk_at dkX4_isWhere_1 6 rfl) (by decide) ?_
        exact RET 1 _ _ _ _ _ ⟨rfl, (u_r_X4_isWhere ⟨z1, ghw3, (Or.inr ⟨c4, ⟨z5, gz5.out, ⟨z6, ghw8, (Or.inr ⟨c9, ⟨z10, gz10.out, ⟨z11, ghw13, (Or.inl ⟨c14, rfl⟩)⟩⟩⟩)⟩⟩⟩)⟩), ⟨by decide, by decide⟩⟩ hP hS (dk_at dkX4_isWhere_1 8 rfl)
      · have c14 : z11 = 0 := (i_eq0 (rb rz11 (by decide) (by decide))).mp c14
        clear hw13
        refine lv_iload_n hx hb (dk_at dkX4_isWhere_1 2 rfl) rfl (lv_at hl 1 rfl) ?_
        refine lv_bipush (v := iI 40) hx hb (dk_at dkX4_isWhere_1 3 rfl) (by decide +kernel) ?_
        refine lv_icmp_ne (tgt := 42) hx hb (dk_at dkX4_isWhere_1 4 rfl) (by decide) (fun c15 => ?_) (fun c15 => ?_)
        · have c15 : ¬ x2 = 40 := mt (i_eq hx2 ⟨by decide, by decide⟩).mpr c15
          refine lv_iconst (v := iI 0) hx hb (dk_at dkX4_isWhere_1 7 rfl) (by decide +kernel) ?_
          exact RET 0 _ _ _ _ _ ⟨rfl, (u_r_X4_isWhere ⟨z1, ghw3, (Or.inr ⟨c4, ⟨z5, gz5.out, ⟨z6, ghw8, (Or.inr ⟨c9, ⟨z10, gz10.out, ⟨z11, ghw13, (Or.inr ⟨c14, (Or.inl ⟨c15, rfl⟩)⟩)⟩⟩⟩)⟩⟩⟩)⟩), ⟨by decide, by decide⟩⟩ hP hS (dk_at dkX4_isWhere_1 8 rfl)
        · have c15 : x2 = 40 := (i_eq hx2 ⟨by decide, by decide⟩).mp c15
          refine lv_iconst (v := iI 1) hx hb (dk_at dkX4_isWhere_1 5 rfl) (by decide +kernel) ?_
          refine lv_goto (tgt := 43) hx hb (dk_at dkX4_isWhere_1 6 rfl) (by decide) ?_
          exact RET 1 _ _ _ _ _ ⟨rfl, (u_r_X4_isWhere ⟨z1, ghw3, (Or.inr ⟨c4, ⟨z5, gz5.out, ⟨z6, ghw8, (Or.inr ⟨c9, ⟨z10, gz10.out, ⟨z11, ghw13, (Or.inr ⟨c14, (Or.inr ⟨c15, rfl⟩)⟩)⟩⟩⟩)⟩⟩⟩)⟩), ⟨by decide, by decide⟩⟩ hP hS (dk_at dkX4_isWhere_1 8 rfl)

abbrev tr_d_X6_placeInRow_2 (K1 : Int → Prop) (z1 : Int) (z : Int) : Prop := (K1 (z1 + 1))
def d_X6_placeInRow_2 (K1 : Int → Prop) (z1 : Int) (z : Int) : Prop := tr_d_X6_placeInRow_2 K1 z1 z
theorem u_d_X6_placeInRow_2 {K1 : Int → Prop} {z1 : Int} {z : Int} (h : tr_d_X6_placeInRow_2 K1 z1 z) : d_X6_placeInRow_2 K1 z1 z := h
abbrev tr_d_X6_placeInRow_1 (ta : Nat) (x1 : Int) (x2 : Int) (A : St) (z : Int) (K1 : Int → Prop) (z1 : Int) : Prop := ((0 ≤ z1 ∧ z1 ≤ 2147483647) ∧ (((6 ≤ z1) ∧ (z = (-1))) ∨ ((¬ 6 ≤ z1) ∧ (((x2 = (-1)) ∧ (d_X6_placeInRow_2 K1 z1 z)) ∨ ((¬ x2 = (-1)) ∧ (∃ z10 : Int, q_X6_inRow ta x1 z1 A z10 ∧ (((¬ z10 = x2) ∧ (d_X6_placeInRow_2 K1 z1 z)) ∨ ((z10 = x2) ∧ (z = z1)))))))))
def d_X6_placeInRow_1 (ta : Nat) (x1 : Int) (x2 : Int) (A : St) (z : Int) : Nat → Int → Prop
  | 0, _ => False
  | nn9 + 1, z1 => tr_d_X6_placeInRow_1 ta x1 x2 A z (fun z1 => d_X6_placeInRow_1 ta x1 x2 A z nn9 z1) z1
theorem u_d_X6_placeInRow_1 {ta : Nat} {x1 : Int} {x2 : Int} {A : St} {z : Int} {nn9 : Nat} {z1 : Int} (h : tr_d_X6_placeInRow_1 ta x1 x2 A z (fun z1 => d_X6_placeInRow_1 ta x1 x2 A z nn9 z1) z1) : d_X6_placeInRow_1 ta x1 x2 A z (nn9 + 1) z1 := h
abbrev tr_r_X6_placeInRow (ta : Nat) (x1 : Int) (x2 : Int) (A : St) (z : Int) : Prop := (∃ nn9 : Nat, d_X6_placeInRow_1 ta x1 x2 A z nn9 0)
def r_X6_placeInRow (ta : Nat) (x1 : Int) (x2 : Int) (A : St) (z : Int) : Prop := tr_r_X6_placeInRow ta x1 x2 A z
theorem u_r_X6_placeInRow {ta : Nat} {x1 : Int} {x2 : Int} {A : St} {z : Int} (h : tr_r_X6_placeInRow ta x1 x2 A z) : r_X6_placeInRow ta x1 x2 A z := h
def q_X6_placeInRow (ta : Nat) (x1 : Int) (x2 : Int) (A : St) (z : Int) : Prop := r_X6_placeInRow ta x1 x2 A z ∧ (-1 ≤ z ∧ z ≤ 5)
def ws_kc_X6_placeInRow : List Cond := .code yX6_placeInRow cX6_placeInRow 4 (some .int) :: WY
set_option maxHeartbeats 4000000 in
set_option maxRecDepth 100000 in
theorem kc_X6_placeInRow (l : Launch) (dC : Nat → ClassId) (dI : Nat → Nat → Nat) (cB cI cJ cZ cQ : ClassId) (aL aS : Nat) (q : Nat → Nat) (A : St) (ta : Nat) (x1 x2 : Int) (hI : IK A) (hta : isS ta) (hx1 : (-2147483648 : Int) ≤ x1 ∧ x1 ≤ 2147483647) (hx2 : (-2147483648 : Int) ≤ x2 ∧ x2 ≤ 2147483647) : KMi l yX6_placeInRow ws_kc_X6_placeInRow ({ frames := 1, cells := 0, slots := 0, locals := 22 } : Room) aL aS (dC, dI) (tyA cB cI cJ cZ cQ) (WK cB cI cJ cZ cQ q) A [.ref (q ta), .int (iI x1), .int (iI x2)] (fun z u => A = u ∧ r_X6_placeInRow ta x1 x2 A z ∧ (-1 ≤ z ∧ z ≤ 5)) := by
  refine k_meti (cc := cX6_placeInRow) (maxL := 4) WK_adr (plainFor_of_name (by decide +kernel)) rfl (Nat.le_of_ble_eq_true rfl) (fun p e s m below meth c Q AS ls hx hb hml hown hts hK hDD hA0 hE RET H locs hP hS hl => ?_)
  have hown : s.vm.findClass RX6 = some m.cls := hown
  have hl : lv_has ls 4 [(0, .ref (q ta)), (1, .int (iI x1)), (2, .int (iI x2))] := hl
  refine lv_iconst (v := iI 0) hx hb (dk_at dkX6_placeInRow_0 0 rfl) (by decide +kernel) ?_
  refine lv_istore_n (lv' := [(3, .int (iI 0)), (0, .ref (q ta)), (1, .int (iI x1)), (2, .int (iI x2))]) hx hb (dk_at dkX6_placeInRow_0 1 rfl) rfl hl (by decide) rfl (fun ls hl => ?_)
  have L2_3 : ∀ (n6 : Nat) (z1 : Int) (H : Heap) (locs : List Loc) (ls : Array Slot), (0 ≤ z1 ∧ z1 ≤ 2147483647) → (∀ (z : Int), (∃ mm1 : Nat, (d_X6_placeInRow_1 ta x1 x2 A z mm1 z1)) → r_X6_placeInRow ta x1 x2 A z) → ((7 - z1).toNat = n6) → va_P (dC, dI) vwCl (WK cB cI cJ cZ cQ q A) H → va_S AS s.heap H locs → lv_has ls 4 [(3, .int (iI z1)), (0, .ref (q ta)), (1, .int (iI x1)), (2, .int (iI x2))] → W p l e (headSpec ws_kc_X6_placeInRow ({ frames := 1, cells := 0, slots := 0, locals := 22 } : Room)).room s m [.ref (q ta), .int (iI x1), .int (iI x2)].toArray below meth c H locs 0 0 Q (F0 m 2 ls []) := by
    intro n6
    induction n6 using Nat.strongRecOn with
    | ind n6 ih4 =>
      intro z1 H locs ls f5 hk1 hn6 hP hS hl
      refine lv_iload_n hx hb (dk_at dkX6_placeInRow_0 2 rfl) rfl (lv_at hl 0 rfl) ?_
      refine lv_bipush (v := iI 6) hx hb (dk_at dkX6_placeInRow_0 3 rfl) (by decide +kernel) ?_
      refine lv_icmp_ge (tgt := 31) hx hb (dk_at dkX6_placeInRow_0 4 rfl) (by decide) (fun c7 => ?_) (fun c7 => ?_)
      · have c7 : 6 ≤ z1 := (i_le ⟨by decide, by decide⟩ (rb f5 (by decide) (by decide))).mp c7
        refine lv_iconst (v := iI (-1)) hx hb (dk_at dkX6_placeInRow_1 2 rfl) (by decide +kernel) ?_
        exact RET (-1) _ _ _ _ _ ⟨rfl, hk1 _ ⟨0 + 1, (u_d_X6_placeInRow_1 ⟨f5, (Or.inl ⟨c7, rfl⟩)⟩)⟩, by omega⟩ hP hS (dk_at dkX6_placeInRow_1 3 rfl)
      · have c7 : ¬ 6 ≤ z1 := mt (i_le ⟨by decide, by decide⟩ (rb f5 (by decide) (by decide))).mpr c7
        refine lv_iload_n hx hb (dk_at dkX6_placeInRow_0 5 rfl) rfl (lv_at hl 3 rfl) ?_
        refine lv_iconst (v := iI (-1)) hx hb (dk_at dkX6_placeInRow_0 6 rfl) (by decide +kernel) ?_
        have J25_9 : ∀ (H : Heap) (locs : List Loc) (ls : Array Slot), (∀ (z : Int), (∃ mm1 : Nat, (d_X6_placeInRow_2 (fun z1' => d_X6_placeInRow_1 ta x1 x2 A z mm1 z1') z1 z)) → r_X6_placeInRow ta x1 x2 A z) → va_P (dC, dI) vwCl (WK cB cI cJ cZ cQ q A) H → va_S AS s.heap H locs → lv_has ls 4 [(3, .int (iI z1)), (0, .ref (q ta)), (1, .int (iI x1)), (2, .int (iI x2))] → W p l e (headSpec ws_kc_X6_placeInRow ({ frames := 1, cells := 0, slots := 0, locals := 22 } : Room)).room s m [.ref (q ta), .int (iI x1), .int (iI x2)].toArray below meth c H locs 0 0 Q (F0 m 25 ls []) := by
          intro H locs ls hk2 hP hS hl
          refine lv_iinc (v := iI (z1 + 1)) (lv' := [(3, .int (iI (z1 + 1))), (0, .ref (q ta)), (1, .int (iI x1)), (2, .int (iI x2))]) hx hb (dk_at dkX6_placeInRow_1 0 rfl) hl (k := 0) rfl (i_inc (by omega)) (by decide) rfl (fun ls hl => ?_)
          refine lv_goto (tgt := 2) hx hb (dk_at dkX6_placeInRow_1 1 rfl) (by decide) ?_
          exact ih4 _ (by omega) (z1 + 1) _ _ _ (by omega) (fun zq ⟨mm1, hq⟩ => hk2 _ ⟨mm1, (u_d_X6_placeInRow_2 hq)⟩) rfl hP hS (lv_sub hl [0, 1, 2, 3] rfl)
        refine lv_icmp_eq (tgt := 25) hx hb (dk_at dkX6_placeInRow_0 7 rfl) (by decide) (fun c8 => ?_) (fun c8 => ?_)
        · have c8 : x2 = (-1) := (i_eq hx2 ⟨by decide, by decide⟩).mp c8
          exact J25_9 _ _ _ (fun zq ⟨mm1, hq⟩ => hk1 _ ⟨mm1 + 1, (u_d_X6_placeInRow_1 ⟨f5, (Or.inr ⟨c7, (Or.inl ⟨c8, hq⟩)⟩)⟩)⟩) hP hS (lv_sub hl [0, 1, 2, 3] rfl)
        · have c8 : ¬ x2 = (-1) := mt (i_eq hx2 ⟨by decide, by decide⟩).mpr c8
          refine lv_aload_n hx hb (dk_at dkX6_placeInRow_0 8 rfl) rfl (lv_at hl 1 rfl) ?_
          refine lv_iload_n hx hb (dk_at dkX6_placeInRow_0 9 rfl) rfl (lv_at hl 2 rfl) ?_
          refine lv_iload_n hx hb (dk_at dkX6_placeInRow_0 10 rfl) rfl (lv_at hl 0 rfl) ?_
          refine k_calli (As := [.int (iI x1), .int (iI z1)]) (rest := []) ⟨hx, hb, hml, hown, hts⟩ hE (kc_X6_inRow l dC dI cB cI cJ cZ cQ aL aS q _ ta x1 z1 hI hta hx1 (rb f5 (by decide) (by decide))) (cwV 2 hts (goodVk wkq_0_54 wkq_0_55 wkq_0_56 wkq_0_52 wkq_0_57) rfl rfl rfl (by decide +kernel) ⟨Nat.le_of_ble_eq_true rfl, Nat.le_of_ble_eq_true rfl⟩) hK hDD hA0 hP hS ta 6 (wkS hta) rfl rfl hl.1 (Nat.le_of_ble_eq_true rfl) (dk_at dkX6_placeInRow_0 11 rfl) (fun z10 A11 H locs hw12 hP hS => ?_)
          obtain ⟨rfl, hw12⟩ := hw12
          have ghw12 : q_X6_inRow ta x1 z1 A z10 := hw12
          have hw12 := hw12.2
          refine lv_iload_n hx hb (dk_at dkX6_placeInRow_0 12 rfl) rfl (lv_at hl 3 rfl) ?_
          refine lv_icmp_ne (tgt := 25) hx hb (dk_at dkX6_placeInRow_0 13 rfl) (by decide) (fun c13 => ?_) (fun c13 => ?_)
          · have c13 : ¬ z10 = x2 := mt (i_eq (by omega) hx2).mpr c13
            exact J25_9 _ _ _ (fun zq ⟨mm1, hq⟩ => hk1 _ ⟨mm1 + 1, (u_d_X6_placeInRow_1 ⟨f5, (Or.inr ⟨c7, (Or.inr ⟨c8, ⟨z10, ghw12, (Or.inl ⟨c13, hq⟩)⟩⟩)⟩)⟩)⟩) hP hS (lv_sub hl [0, 1, 2, 3] rfl)
          · have c13 : z10 = x2 := (i_eq (by omega) hx2).mp c13
            refine lv_iload_n hx hb (dk_at dkX6_placeInRow_0 14 rfl) rfl (lv_at hl 0 rfl) ?_
            exact RET z1 _ _ _ _ _ ⟨rfl, hk1 _ ⟨0 + 1, (u_d_X6_placeInRow_1 ⟨f5, (Or.inr ⟨c7, (Or.inr ⟨c8, ⟨z10, ghw12, (Or.inr ⟨c13, rfl⟩)⟩⟩)⟩)⟩)⟩, by omega⟩ hP hS (dk_at dkX6_placeInRow_0 15 rfl)
  exact L2_3 _ 0 _ _ _ (by omega) (fun zq ⟨mm1, hq⟩ => (u_r_X6_placeInRow ⟨mm1, hq⟩)) rfl hP hS (lv_sub hl [0, 1, 2, 3] rfl)

abbrev tr_r_X6_push (ta : Nat) (x1 : Int) (x2 : Int) (A : St) (z : Int) (u : St) : Prop := (((x1 < 0) ∧ (z = 0 ∧ u = A)) ∨ ((¬ x1 < 0) ∧ (((4 ≤ x1) ∧ (z = 0 ∧ u = A)) ∨ ((¬ 4 ≤ x1) ∧ (∃ z3 : Int, q_X6_placeInRow ta x1 x2 A z3 ∧ (((z3 = (-1)) ∧ (∃ z7 : Int, z7 = A (ta + 3) (x1).toNat ∧ (((z7 < 6) ∧ (∃ A10 : St, A10 = stA A (ta + 5 + (x1).toNat) (z7).toNat x2 ∧ (∃ A11 : St, A11 = stA A10 (ta + 3) (x1).toNat (z7 + 1) ∧ (z = 1 ∧ u = A11)))) ∨ ((¬ z7 < 6) ∧ (z = 0 ∧ u = A))))) ∨ ((¬ z3 = (-1)) ∧ (z = 0 ∧ u = A))))))))
def r_X6_push (ta : Nat) (x1 : Int) (x2 : Int) (A : St) (z : Int) (u : St) : Prop := tr_r_X6_push ta x1 x2 A z u
theorem u_r_X6_push {ta : Nat} {x1 : Int} {x2 : Int} {A : St} {z : Int} {u : St} (h : tr_r_X6_push ta x1 x2 A z u) : r_X6_push ta x1 x2 A z u := h
def q_X6_push (ta : Nat) (x1 : Int) (x2 : Int) (A : St) (z : Int) (u : St) : Prop := r_X6_push ta x1 x2 A z u ∧ IK u ∧ fk [35, 37, 38, 39, 40, 44, 46, 47, 48, 49, 76, 78, 79, 80, 81, 107, 109, 110, 111, 112] [] A u ∧ (0 ≤ z ∧ z ≤ 1)
def ws_kc_X6_push : List Cond := .code yX6_push cX6_push 4 (some .boolean) :: WY
set_option maxHeartbeats 4000000 in
set_option maxRecDepth 100000 in
theorem kc_X6_push (l : Launch) (dC : Nat → ClassId) (dI : Nat → Nat → Nat) (cB cI cJ cZ cQ : ClassId) (aL aS : Nat) (q : Nat → Nat) (A : St) (ta : Nat) (x1 x2 : Int) (hI : IK A) (hta : isS ta) (hx1 : (-2147483648 : Int) ≤ x1 ∧ x1 ≤ 2147483647) (hx2 : (-2147483648 : Int) ≤ x2 ∧ x2 ≤ 2147483647) : KMi l yX6_push ws_kc_X6_push ({ frames := 2, cells := 0, slots := 0, locals := 45 } : Room) aL aS (dC, dI) (tyA cB cI cJ cZ cQ) (WK cB cI cJ cZ cQ q) A [.ref (q ta), .int (iI x1), .int (iI x2)] (fun z u => r_X6_push ta x1 x2 A z u ∧ IK u ∧ fk [35, 37, 38, 39, 40, 44, 46, 47, 48, 49, 76, 78, 79, 80, 81, 107, 109, 110, 111, 112] [] A u ∧ (0 ≤ z ∧ z ≤ 1)) := by
  refine k_metz (cc := cX6_push) (maxL := 4) WK_adr (plainFor_of_name (by decide +kernel)) rfl (Nat.le_of_ble_eq_true rfl) (fun z u h => h.2.2.2) (fun p e s m below meth c Q AS ls hx hb hml hown hts hK hDD hA0 hE RET H locs hP hS hl => ?_)
  have hown : s.vm.findClass RX6 = some m.cls := hown
  have hl : lv_has ls 4 [(0, .ref (q ta)), (1, .int (iI x1)), (2, .int (iI x2))] := hl
  have hiX6 : ∀ w ∈ u_ws RX6 TX6 4, w ∈ ws_kc_X6_push := fun w h => List.mem_cons_of_mem _ (wy_layX6 w h)
  refine lv_iload_n hx hb (dk_at dkX6_push_0 0 rfl) rfl (lv_at hl 1 rfl) ?_
  refine lv_if_lt (tgt := 19) hx hb (dk_at dkX6_push_0 1 rfl) (by decide) (fun c1 => ?_) (fun c1 => ?_)
  · have c1 : x1 < 0 := (i_lt0 hx1).mp c1
    refine lv_iconst (v := iI 0) hx hb (dk_at dkX6_push_0 11 rfl) (by decide +kernel) ?_
    exact RET 0 _ _ _ _ _ ⟨(u_r_X6_push (Or.inl ⟨c1, ⟨rfl, rfl⟩⟩)), hI, fk.rf, ⟨by decide, by decide⟩⟩ hP hS (dk_at dkX6_push_0 12 rfl)
  · have c1 : ¬ x1 < 0 := mt (i_lt0 hx1).mpr c1
    refine lv_iload_n hx hb (dk_at dkX6_push_0 2 rfl) rfl (lv_at hl 1 rfl) ?_
    refine lv_iconst (v := iI 4) hx hb (dk_at dkX6_push_0 3 rfl) (by decide +kernel) ?_
    refine lv_icmp_ge (tgt := 19) hx hb (dk_at dkX6_push_0 4 rfl) (by decide) (fun c2 => ?_) (fun c2 => ?_)
    · have c2 : 4 ≤ x1 := (i_le ⟨by decide, by decide⟩ hx1).mp c2
      refine lv_iconst (v := iI 0) hx hb (dk_at dkX6_push_0 11 rfl) (by decide +kernel) ?_
      exact RET 0 _ _ _ _ _ ⟨(u_r_X6_push (Or.inr ⟨c1, (Or.inl ⟨c2, ⟨rfl, rfl⟩⟩)⟩)), hI, fk.rf, ⟨by decide, by decide⟩⟩ hP hS (dk_at dkX6_push_0 12 rfl)
    · have c2 : ¬ 4 ≤ x1 := mt (i_le ⟨by decide, by decide⟩ hx1).mpr c2
      refine lv_aload_n hx hb (dk_at dkX6_push_0 5 rfl) rfl (lv_at hl 0 rfl) ?_
      refine lv_iload_n hx hb (dk_at dkX6_push_0 6 rfl) rfl (lv_at hl 1 rfl) ?_
      refine lv_iload_n hx hb (dk_at dkX6_push_0 7 rfl) rfl (lv_at hl 2 rfl) ?_
      refine k_calli (As := [.int (iI x1), .int (iI x2)]) (rest := []) ⟨hx, hb, hml, hown, hts⟩ hE (kc_X6_placeInRow l dC dI cB cI cJ cZ cQ aL aS q _ ta x1 x2 hI hta hx1 hx2) (cwV 2 hts (goodVk wkq_4_58 wkq_4_59 wkq_5_0 wkq_0_52 wkq_5_1) rfl rfl rfl (by decide +kernel) ⟨Nat.le_of_ble_eq_true rfl, Nat.le_of_ble_eq_true rfl⟩) hK hDD hA0 hP hS ta 6 (wkS hta) rfl rfl hl.1 (Nat.le_of_ble_eq_true rfl) (dk_at dkX6_push_0 8 rfl) (fun z3 A4 H locs hw5 hP hS => ?_)
      obtain ⟨rfl, hw5⟩ := hw5
      have ghw5 : q_X6_placeInRow ta x1 x2 A z3 := hw5
      have hw5 := hw5.2
      refine lv_iconst (v := iI (-1)) hx hb (dk_at dkX6_push_0 9 rfl) (by decide +kernel) ?_
      refine lv_icmp_eq (tgt := 21) hx hb (dk_at dkX6_push_0 10 rfl) (by decide) (fun c6 => ?_) (fun c6 => ?_)
      · have c6 : z3 = (-1) := (i_eq (rb hw5 (by decide) (by decide)) ⟨by decide, by decide⟩).mp c6
        refine lv_aload_n hx hb (dk_at dkX6_push_0 13 rfl) rfl (lv_at hl 0 rfl) ?_
        refine va_get (D := (dC, dI)) (ci := 6) (v := .ref (q (ta + 3))) (C := RX6) (T := TX6) (N := 4) hx hb hts hiX6 hown hK hP ta (wkS hta) rfl 2 (by decide) (hts _ (List.mem_cons_of_mem _ wkq_0_58)) (fun _ h9 => h9) rfl (dk_at dkX6_push_0 14 rfl) ?_
        refine lv_iload_n hx hb (dk_at dkX6_push_0 15 rfl) rfl (lv_at hl 1 rfl) ?_
        refine x_iald (Wf := WK cB cI cJ cZ cQ q) hx hb hK hP (ta + 3) 1 (wkSz hta) rfl (by omega) (by decide) (dk_at dkX6_push_1 0 rfl) (fun z7 hz7 => ?_)
        have rz7 : (0 : Int) ≤ z7 ∧ z7 ≤ 6 := by rw [hz7]; exact irSz hta hI
        have gz7 := Hd.mk hz7
        refine lv_istore_n (lv' := [(3, .int (iI z7)), (0, .ref (q ta)), (1, .int (iI x1)), (2, .int (iI x2))]) hx hb (dk_at dkX6_push_1 1 rfl) rfl hl (by decide) rfl (fun ls hl => ?_)
        refine lv_iload_n hx hb (dk_at dkX6_push_1 2 rfl) rfl (lv_at hl 0 rfl) ?_
        refine lv_if_lt (tgt := 38) hx hb (dk_at dkX6_push_1 3 rfl) (by decide) (fun c8 => False.elim (by have c8 : z7 < 0 := (i_lt0 (rb rz7 (by decide) (by decide))).mp c8; omega)) (fun _ => ?_)
        refine lv_iload_n hx hb (dk_at dkX6_push_1 4 rfl) rfl (lv_at hl 0 rfl) ?_
        refine lv_bipush (v := iI 6) hx hb (dk_at dkX6_push_1 5 rfl) (by decide +kernel) ?_
        refine lv_icmp_lt (tgt := 40) hx hb (dk_at dkX6_push_1 6 rfl) (by decide) (fun c9 => ?_) (fun c9 => ?_)
        · have c9 : z7 < 6 := (i_lt (rb rz7 (by decide) (by decide)) ⟨by decide, by decide⟩).mp c9
          refine lv_aload_n hx hb (dk_at dkX6_push_1 9 rfl) rfl (lv_at hl 1 rfl) ?_
          refine va_get (D := (dC, dI)) (ci := 6) (v := .ref (q (ta + 4))) (C := RX6) (T := TX6) (N := 4) hx hb hts hiX6 hown hK hP ta (wkS hta) rfl 3 (by decide) (hts _ (List.mem_cons_of_mem _ wkq_0_59)) (fun _ h9 => h9) rfl (dk_at dkX6_push_1 10 rfl) ?_
          refine lv_iload_n hx hb (dk_at dkX6_push_1 11 rfl) rfl (lv_at hl 2 rfl) ?_
          refine k_aald (Wf := WK cB cI cJ cZ cQ q) hx hb hK hP (ta + 4) 4 (wkSq hta) rfl (by omega) (by decide) (b := q (ta + 5 + (x1).toNat)) (by rcases (show x1 = 0 ∨ x1 = 1 ∨ x1 = 2 ∨ x1 = 3 by omega) with h | h | h | h <;> rw [h] <;> rfl) (dk_at dkX6_push_1 12 rfl) ?_
          refine lv_iload_n hx hb (dk_at dkX6_push_1 13 rfl) rfl (lv_at hl 0 rfl) ?_
          refine lv_iload_n hx hb (dk_at dkX6_push_1 14 rfl) rfl (lv_at hl 3 rfl) ?_
          refine k_iast (Wf := WK cB cI cJ cZ cQ q) hx hb hK hP hDD hS (ta + 5 + (x1).toNat) 1 (wkSr hta (i := x1) (by omega)) rfl (by omega) (by decide) (dk_at dkX6_push_1 15 rfl) (wsSr hta (i := x1) (by omega)) (fun H locs A10 hA10 hP hS => ?_)
          have hI := isSr hta (i := x1) (by omega) hA10 hI (show (-2147483648 : Int) ≤ x2 ∧ x2 ≤ 2147483647 from hx2)
          refine lv_aload_n hx hb (dk_at dkX6_push_2 0 rfl) rfl (lv_at hl 1 rfl) ?_
          refine va_get (D := (dC, dI)) (ci := 6) (v := .ref (q (ta + 3))) (C := RX6) (T := TX6) (N := 4) hx hb hts hiX6 hown hK hP ta (wkS hta) rfl 2 (by decide) (hts _ (List.mem_cons_of_mem _ wkq_0_58)) (fun _ h9 => h9) rfl (dk_at dkX6_push_2 1 rfl) ?_
          refine lv_iload_n hx hb (dk_at dkX6_push_2 2 rfl) rfl (lv_at hl 2 rfl) ?_
          refine lv_iload_n hx hb (dk_at dkX6_push_2 3 rfl) rfl (lv_at hl 0 rfl) ?_
          refine lv_iconst (v := iI 1) hx hb (dk_at dkX6_push_2 4 rfl) (by decide +kernel) ?_
          refine x_addv (v := z7 + 1) hx hb (dk_at dkX6_push_2 5 rfl) (by omega) ?_
          refine k_iast (Wf := WK cB cI cJ cZ cQ q) hx hb hK hP hDD hS (ta + 3) 1 (wkSz hta) rfl (by omega) (by decide) (dk_at dkX6_push_2 6 rfl) (wsSz hta) (fun H locs A11 hA11 hP hS => ?_)
          have hI := isSz hta hA11 hI (show (0 : Int) ≤ z7 + 1 ∧ z7 + 1 ≤ 6 from (by omega))
          refine lv_iconst (v := iI 1) hx hb (dk_at dkX6_push_2 7 rfl) (by decide +kernel) ?_
          exact RET 1 _ _ _ _ _ ⟨(u_r_X6_push (Or.inr ⟨c1, (Or.inr ⟨c2, ⟨z3, ghw5, (Or.inl ⟨c6, ⟨z7, gz7.out, (Or.inl ⟨c9, ⟨A10, hA10, ⟨A11, hA11, ⟨rfl, rfl⟩⟩⟩⟩)⟩⟩)⟩⟩)⟩)), hI, fk.da (fk.da (fk.rf) hA10 (by rcases hta with h | h | h | h <;> rw [h] <;> rcases (show x1 = 0 ∨ x1 = 1 ∨ x1 = 2 ∨ x1 = 3 by omega) with g | g | g | g <;> rw [g] <;> rfl)) hA11 (isS.b2 (o := fun b => List.contains [35, 37, 38, 39, 40, 44, 46, 47, 48, 49, 76, 78, 79, 80, 81, 107, 109, 110, 111, 112] (b + 3)) hta rfl rfl rfl rfl), ⟨by decide, by decide⟩⟩ hP hS (dk_at dkX6_push_2 8 rfl)
        · have c9 : ¬ z7 < 6 := mt (i_lt (rb rz7 (by decide) (by decide)) ⟨by decide, by decide⟩).mpr c9
          refine lv_iconst (v := iI 0) hx hb (dk_at dkX6_push_1 7 rfl) (by decide +kernel) ?_
          exact RET 0 _ _ _ _ _ ⟨(u_r_X6_push (Or.inr ⟨c1, (Or.inr ⟨c2, ⟨z3, ghw5, (Or.inl ⟨c6, ⟨z7, gz7.out, (Or.inr ⟨c9, ⟨rfl, rfl⟩⟩)⟩⟩)⟩⟩)⟩)), hI, fk.rf, ⟨by decide, by decide⟩⟩ hP hS (dk_at dkX6_push_1 8 rfl)
      · have c6 : ¬ z3 = (-1) := mt (i_eq (rb hw5 (by decide) (by decide)) ⟨by decide, by decide⟩).mpr c6
        refine lv_iconst (v := iI 0) hx hb (dk_at dkX6_push_0 11 rfl) (by decide +kernel) ?_
        exact RET 0 _ _ _ _ _ ⟨(u_r_X6_push (Or.inr ⟨c1, (Or.inr ⟨c2, ⟨z3, ghw5, (Or.inr ⟨c6, ⟨rfl, rfl⟩⟩)⟩⟩)⟩)), hI, fk.rf, ⟨by decide, by decide⟩⟩ hP hS (dk_at dkX6_push_0 12 rfl)

abbrev tr_d_X4_acceptKey_1 (ta : Nat) (x3 : Int) (x4 : Int) (z5 : Int) (z : Int) (u : St) (K1 : Int → St → Prop) (z16 : Int) (A18 : St) : Prop := ((IK A18) ∧ ((0 ≤ z16 ∧ z16 ≤ 2147483647) ∧ (((z5 ≤ z16) ∧ (z = 1 ∧ u = A18)) ∨ ((¬ z5 ≤ z16) ∧ (∃ z25 : Int, z25 = oWrap (x4 + 2) ∧ (∃ z26 : Int, z26 = oWrap (z25 + z16) ∧ (∃ z27 : Int, q_X7_at z26 A18 z27 ∧ (∃ z30 : Int, q_X9_isThere_1_1 ta z27 A18 z30 ∧ (((z30 = 0) ∧ (z = 0 ∧ u = A18)) ∨ ((¬ z30 = 0) ∧ (∃ z34 : Int, ∃ A35 : St, q_X6_push 32 x3 z27 A18 z34 A35 ∧ (((¬ z34 = 0) ∧ (K1 (z16 + 1) A35)) ∨ ((z34 = 0) ∧ (z = 0 ∧ u = A35))))))))))))))
def d_X4_acceptKey_1 (ta : Nat) (x3 : Int) (x4 : Int) (z5 : Int) (z : Int) (u : St) : Nat → Int → St → Prop
  | 0, _, _ => False
  | nn9 + 1, z16, A18 => tr_d_X4_acceptKey_1 ta x3 x4 z5 z u (fun z16 A18 => d_X4_acceptKey_1 ta x3 x4 z5 z u nn9 z16 A18) z16 A18
theorem u_d_X4_acceptKey_1 {ta : Nat} {x3 : Int} {x4 : Int} {z5 : Int} {z : Int} {u : St} {nn9 : Nat} {z16 : Int} {A18 : St} (h : tr_d_X4_acceptKey_1 ta x3 x4 z5 z u (fun z16 A18 => d_X4_acceptKey_1 ta x3 x4 z5 z u nn9 z16 A18) z16 A18) : d_X4_acceptKey_1 ta x3 x4 z5 z u (nn9 + 1) z16 A18 := h
abbrev tr_r_X4_acceptKey (ta : Nat) (x3 : Int) (x4 : Int) (A : St) (z : Int) (u : St) : Prop := (∃ z1 : Int, q_X7_at x4 A z1 ∧ (∃ z4 : Int, z4 = oWrap (x4 + 1) ∧ (∃ z5 : Int, q_X7_at z4 A z5 ∧ (∃ z8 : Int, q_X4_isWhere ta z1 A z8 ∧ (((z8 = 0) ∧ (z = 0 ∧ u = A)) ∨ ((¬ z8 = 0) ∧ (((z5 < 0) ∧ (z = 0 ∧ u = A)) ∨ ((¬ z5 < 0) ∧ (((z5 ≤ 6) ∧ (∃ A14 : St, A14 = stA A (32 + 2) (x3).toNat z1 ∧ (∃ A15 : St, A15 = stA A14 (32 + 3) (x3).toNat 0 ∧ (∃ nn9 : Nat, d_X4_acceptKey_1 ta x3 x4 z5 z u nn9 0 A15)))) ∨ ((¬ z5 ≤ 6) ∧ (z = 0 ∧ u = A)))))))))))
def r_X4_acceptKey (ta : Nat) (x3 : Int) (x4 : Int) (A : St) (z : Int) (u : St) : Prop := tr_r_X4_acceptKey ta x3 x4 A z u
theorem u_r_X4_acceptKey {ta : Nat} {x3 : Int} {x4 : Int} {A : St} {z : Int} {u : St} (h : tr_r_X4_acceptKey ta x3 x4 A z u) : r_X4_acceptKey ta x3 x4 A z u := h
def q_X4_acceptKey (ta : Nat) (x3 : Int) (x4 : Int) (A : St) (z : Int) (u : St) : Prop := r_X4_acceptKey ta x3 x4 A z u ∧ IK u ∧ fk [34, 35, 37, 38, 39, 40, 43, 44, 46, 47, 48, 49, 75, 76, 78, 79, 80, 81, 106, 107, 109, 110, 111, 112] [] A u ∧ (0 ≤ z ∧ z ≤ 1)
def ws_kc_X4_acceptKey : List Cond := .code yX4_acceptKey cX4_acceptKey 9 (some .boolean) :: WY
set_option maxHeartbeats 4000000 in
set_option maxRecDepth 100000 in
theorem kc_X4_acceptKey (l : Launch) (dC : Nat → ClassId) (dI : Nat → Nat → Nat) (cB cI cJ cZ cQ : ClassId) (aL aS : Nat) (q : Nat → Nat) (A : St) (ta : Nat) (x3 x4 : Int) (hI : IK A) (hta : isT ta) (hx3 : (0 : Int) ≤ x3 ∧ x3 ≤ 3) (hx4 : (-2147483648 : Int) ≤ x4 ∧ x4 ≤ 2147483647) : KMi l yX4_acceptKey ws_kc_X4_acceptKey ({ frames := 3, cells := 0, slots := 0, locals := 68 } : Room) aL aS (dC, dI) (tyA cB cI cJ cZ cQ) (WK cB cI cJ cZ cQ q) A [.ref (q 30), .ref (q ta), .ref (q 1), .int (iI x3), .int (iI x4)] (fun z u => r_X4_acceptKey ta x3 x4 A z u ∧ IK u ∧ fk [34, 35, 37, 38, 39, 40, 43, 44, 46, 47, 48, 49, 75, 76, 78, 79, 80, 81, 106, 107, 109, 110, 111, 112] [] A u ∧ (0 ≤ z ∧ z ≤ 1)) := by
  refine k_metz (cc := cX4_acceptKey) (maxL := 9) WK_adr (plainFor_of_name (by decide +kernel)) rfl (Nat.le_of_ble_eq_true rfl) (fun z u h => h.2.2.2) (fun p e s m below meth c Q AS ls hx hb hml hown hts hK hDD hA0 hE RET H locs hP hS hl => ?_)
  have hown : s.vm.findClass RX4 = some m.cls := hown
  have hl : lv_has ls 9 [(0, .ref (q 30)), (1, .ref (q ta)), (2, .ref (q 1)), (3, .int (iI x3)), (4, .int (iI x4))] := hl
  have hiX4 : ∀ w ∈ u_ws RX4 TX4 3, w ∈ ws_kc_X4_acceptKey := fun w h => List.mem_cons_of_mem _ (wy_layX4 w h)
  have hiX6 : ∀ w ∈ u_ws RX6 TX6 4, w ∈ ws_kc_X4_acceptKey := fun w h => List.mem_cons_of_mem _ (wy_layX6 w h)
  refine lv_aload_n hx hb (dk_at dkX4_acceptKey_0 0 rfl) rfl (lv_at hl 2 rfl) ?_
  refine lv_iload hx hb (dk_at dkX4_acceptKey_0 1 rfl) (lv_at hl 4 rfl) ?_
  refine k_calli (As := [.int (iI x4)]) (rest := []) ⟨hx, hb, hml, hown, hts⟩ hE (kc_X7_at l dC dI cB cI cJ cZ cQ aL aS q _ x4 hI hx4) (cwV 1 hts (goodVk wkq_4_38 wkq_4_39 wkq_4_40 wkq_4_41 wkq_4_42) rfl rfl rfl (by decide +kernel) ⟨Nat.le_of_ble_eq_true rfl, Nat.le_of_ble_eq_true rfl⟩) hK hDD hA0 hP hS 1 7 (wkTP) rfl rfl hl.1 (Nat.le_of_ble_eq_true rfl) (dk_at dkX4_acceptKey_0 2 rfl) (fun z1 A2 H locs hw3 hP hS => ?_)
  obtain ⟨rfl, hw3⟩ := hw3
  have ghw3 : q_X7_at x4 A z1 := hw3
  have hw3 := hw3.2
  refine lv_istore (lv' := [(5, .int (iI z1)), (0, .ref (q 30)), (1, .ref (q ta)), (2, .ref (q 1)), (3, .int (iI x3)), (4, .int (iI x4))]) hx hb (dk_at dkX4_acceptKey_0 3 rfl) hl (by decide) rfl (fun ls hl => ?_)
  refine lv_aload_n hx hb (dk_at dkX4_acceptKey_0 4 rfl) rfl (lv_at hl 3 rfl) ?_
  refine lv_iload hx hb (dk_at dkX4_acceptKey_0 5 rfl) (lv_at hl 5 rfl) ?_
  refine lv_iconst (v := iI 1) hx hb (dk_at dkX4_acceptKey_0 6 rfl) (by decide +kernel) ?_
  refine x_addv (v := x4 + 1) hx hb (dk_at dkX4_acceptKey_0 7 rfl) (by omega) ?_
  refine x_absE (fun z4 gz4 hz4 => ?_)
  refine k_calli (As := [.int (iI z4)]) (rest := []) ⟨hx, hb, hml, hown, hts⟩ hE (kc_X7_at l dC dI cB cI cJ cZ cQ aL aS q _ z4 hI hz4) (cwV 1 hts (goodVk wkq_4_38 wkq_4_39 wkq_4_40 wkq_4_41 wkq_4_42) rfl rfl rfl (by decide +kernel) ⟨Nat.le_of_ble_eq_true rfl, Nat.le_of_ble_eq_true rfl⟩) hK hDD hA0 hP hS 1 7 (wkTP) rfl rfl hl.1 (Nat.le_of_ble_eq_true rfl) (dk_at dkX4_acceptKey_0 8 rfl) (fun z5 A6 H locs hw7 hP hS => ?_)
  obtain ⟨rfl, hw7⟩ := hw7
  have ghw7 : q_X7_at z4 A z5 := hw7
  have hw7 := hw7.2
  refine lv_istore (lv' := [(6, .int (iI z5)), (5, .int (iI z1)), (0, .ref (q 30)), (1, .ref (q ta)), (2, .ref (q 1)), (3, .int (iI x3)), (4, .int (iI x4))]) hx hb (dk_at dkX4_acceptKey_0 9 rfl) hl (by decide) rfl (fun ls hl => ?_)
  refine lv_aload_n hx hb (dk_at dkX4_acceptKey_0 10 rfl) rfl (lv_at hl 3 rfl) ?_
  refine lv_iload hx hb (dk_at dkX4_acceptKey_0 11 rfl) (lv_at hl 1 rfl) ?_
  refine k_callSi (As := [.ref (q ta), .int (iI z1)]) (rest := []) ⟨hx, hb, hml, hown, hts⟩ hE (kc_X4_isWhere l dC dI cB cI cJ cZ cQ aL aS q _ ta z1 hI hta (rb hw3 (by decide) (by decide))) (va_cwS 2 hts (goodSk wkq_4_50 wkq_4_51 wkq_4_23 wkq_4_52) rfl rfl rfl (by decide +kernel) ⟨Nat.le_of_ble_eq_true rfl, Nat.le_of_ble_eq_true rfl⟩) hK hDD hA0 hP hS rfl hl.1 (Nat.le_of_ble_eq_true rfl) (dk_at dkX4_acceptKey_0 12 rfl) (fun z8 A9 H locs hw10 hP hS => ?_)
  obtain ⟨rfl, hw10⟩ := hw10
  have ghw10 : q_X4_isWhere ta z1 A z8 := hw10
  have hw10 := hw10.2
  refine lv_if_eq (tgt := 39) hx hb (dk_at dkX4_acceptKey_0 13 rfl) (by decide) (fun c11 => ?_) (fun c11 => ?_)
  · have c11 : z8 = 0 := (i_eq0 (rb hw10 (by decide) (by decide))).mp c11
    refine lv_iconst (v := iI 0) hx hb (dk_at dkX4_acceptKey_1 3 rfl) (by decide +kernel) ?_
    exact RET 0 _ _ _ _ _ ⟨(u_r_X4_acceptKey ⟨z1, ghw3, ⟨z4, gz4.out, ⟨z5, ghw7, ⟨z8, ghw10, (Or.inl ⟨c11, ⟨rfl, rfl⟩⟩)⟩⟩⟩⟩), hI, fk.rf, ⟨by decide, by decide⟩⟩ hP hS (dk_at dkX4_acceptKey_1 4 rfl)
  · have c11 : ¬ z8 = 0 := mt (i_eq0 (rb hw10 (by decide) (by decide))).mpr c11
    refine lv_iload hx hb (dk_at dkX4_acceptKey_0 14 rfl) (lv_at hl 0 rfl) ?_
    refine lv_if_lt (tgt := 39) hx hb (dk_at dkX4_acceptKey_0 15 rfl) (by decide) (fun c12 => ?_) (fun c12 => ?_)
    · have c12 : z5 < 0 := (i_lt0 (rb hw7 (by decide) (by decide))).mp c12
      refine lv_iconst (v := iI 0) hx hb (dk_at dkX4_acceptKey_1 3 rfl) (by decide +kernel) ?_
      exact RET 0 _ _ _ _ _ ⟨(u_r_X4_acceptKey ⟨z1, ghw3, ⟨z4, gz4.out, ⟨z5, ghw7, ⟨z8, ghw10, (Or.inr ⟨c11, (Or.inl ⟨c12, ⟨rfl, rfl⟩⟩)⟩)⟩⟩⟩⟩), hI, fk.rf, ⟨by decide, by decide⟩⟩ hP hS (dk_at dkX4_acceptKey_1 4 rfl)
    · have c12 : ¬ z5 < 0 := mt (i_lt0 (rb hw7 (by decide) (by decide))).mpr c12
      refine lv_iload hx hb (dk_at dkX4_acceptKey_1 0 rfl) (lv_at hl 0 rfl) ?_
      refine lv_bipush (v := iI 6) hx hb (dk_at dkX4_acceptKey_1 1 rfl) (by decide +kernel) ?_
      refine lv_icmp_le (tgt := 41) hx hb (dk_at dkX4_acceptKey_1 2 rfl) (by decide) (fun c13 => ?_) (fun c13 => ?_)
      · have c13 : z5 ≤ 6 := (i_le (rb hw7 (by decide) (by decide)) ⟨by decide, by decide⟩).mp c13
        refine lv_aload_n hx hb (dk_at dkX4_acceptKey_1 5 rfl) rfl (lv_at hl 2 rfl) ?_
        refine va_get (D := (dC, dI)) (ci := 4) (v := .ref (q 32)) (C := RX4) (T := TX4) (N := 3) hx hb hts hiX4 hown hK hP 30 (wkPC) rfl 1 (by decide) (hts _ (List.mem_cons_of_mem _ wkq_4_30)) (fun _ h9 => h9) rfl (dk_at dkX4_acceptKey_1 6 rfl) ?_
        refine va_get (D := (dC, dI)) (ci := 6) (v := .ref (q (32 + 2))) (C := RX6) (T := TX6) (N := 4) hx hb hts hiX6 hown hK hP 32 (wkS isS32) rfl 1 (by decide) (hts _ (List.mem_cons_of_mem _ wkq_4_17)) (fun _ h9 => h9) rfl (dk_at dkX4_acceptKey_1 7 rfl) ?_
        refine lv_iload_n hx hb (dk_at dkX4_acceptKey_1 8 rfl) rfl (lv_at hl 5 rfl) ?_
        refine lv_iload hx hb (dk_at dkX4_acceptKey_1 9 rfl) (lv_at hl 1 rfl) ?_
        refine k_iast (Wf := WK cB cI cJ cZ cQ q) hx hb hK hP hDD hS (32 + 2) 1 (wkSw isS32) rfl (by omega) (by decide) (dk_at dkX4_acceptKey_1 10 rfl) (wsSw isS32) (fun H locs A14 hA14 hP hS => ?_)
        have hI := isSw isS32 hA14 hI (show (-2147483648 : Int) ≤ z1 ∧ z1 ≤ 2147483647 from (rb hw3 (by decide) (by decide)))
        refine lv_aload_n hx hb (dk_at dkX4_acceptKey_1 11 rfl) rfl (lv_at hl 2 rfl) ?_
        refine va_get (D := (dC, dI)) (ci := 4) (v := .ref (q 32)) (C := RX4) (T := TX4) (N := 3) hx hb hts hiX4 hown hK hP 30 (wkPC) rfl 1 (by decide) (hts _ (List.mem_cons_of_mem _ wkq_4_30)) (fun _ h9 => h9) rfl (dk_at dkX4_acceptKey_1 12 rfl) ?_
        refine va_get (D := (dC, dI)) (ci := 6) (v := .ref (q (32 + 3))) (C := RX6) (T := TX6) (N := 4) hx hb hts hiX6 hown hK hP 32 (wkS isS32) rfl 2 (by decide) (hts _ (List.mem_cons_of_mem _ wkq_4_18)) (fun _ h9 => h9) rfl (dk_at dkX4_acceptKey_1 13 rfl) ?_
        refine lv_iload_n hx hb (dk_at dkX4_acceptKey_1 14 rfl) rfl (lv_at hl 5 rfl) ?_
        refine lv_iconst (v := iI 0) hx hb (dk_at dkX4_acceptKey_1 15 rfl) (by decide +kernel) ?_
        refine k_iast (Wf := WK cB cI cJ cZ cQ q) hx hb hK hP hDD hS (32 + 3) 1 (wkSz isS32) rfl (by omega) (by decide) (dk_at dkX4_acceptKey_2 0 rfl) (wsSz isS32) (fun H locs A15 hA15 hP hS => ?_)
        have hI := isSz isS32 hA15 hI (show (0 : Int) ≤ 0 ∧ 0 ≤ 6 from ⟨by decide, by decide⟩)
        refine lv_iconst (v := iI 0) hx hb (dk_at dkX4_acceptKey_2 1 rfl) (by decide +kernel) ?_
        refine lv_istore (lv' := [(7, .int (iI 0)), (6, .int (iI z5)), (5, .int (iI z1)), (0, .ref (q 30)), (1, .ref (q ta)), (2, .ref (q 1)), (3, .int (iI x3)), (4, .int (iI x4))]) hx hb (dk_at dkX4_acceptKey_2 2 rfl) hl (by decide) rfl (fun ls hl => ?_)
        have L65_19 : ∀ (n22 : Nat) (z16 : Int) (A18 : St) (H : Heap) (locs : List Loc) (ls : Array Slot), (0 ≤ z16 ∧ z16 ≤ 2147483647) → (∀ (z : Int) (u : St), (∃ mm1 : Nat, (d_X4_acceptKey_1 ta x3 x4 z5 z u mm1 z16 A18)) → r_X4_acceptKey ta x3 x4 A z u) → ((7 - z16).toNat = n22) → IK A18 → fk [35, 37, 38, 39, 40, 44, 46, 47, 48, 49, 76, 78, 79, 80, 81, 107, 109, 110, 111, 112] [] A15 A18 → va_P (dC, dI) vwCl (WK cB cI cJ cZ cQ q A18) H → va_S AS s.heap H locs → lv_has ls 9 [(7, .int (iI z16)), (6, .int (iI z5)), (5, .int (iI z1)), (0, .ref (q 30)), (1, .ref (q ta)), (2, .ref (q 1)), (3, .int (iI x3)), (4, .int (iI x4))] → W p l e (headSpec ws_kc_X4_acceptKey ({ frames := 3, cells := 0, slots := 0, locals := 68 } : Room)).room s m [.ref (q 30), .ref (q ta), .ref (q 1), .int (iI x3), .int (iI x4)].toArray below meth c H locs 0 0 Q (F0 m 65 ls []) := by
          intro n22
          induction n22 using Nat.strongRecOn with
          | ind n22 ih20 =>
            intro z16 A18 H locs ls f21 hk1 hn22 hI hj17 hP hS hl
            have gI23 : Hd (IK A18) := Hd.mk hI
            refine lv_iload hx hb (dk_at dkX4_acceptKey_2 3 rfl) (lv_at hl 0 rfl) ?_
            refine lv_iload hx hb (dk_at dkX4_acceptKey_2 4 rfl) (lv_at hl 1 rfl) ?_
            refine lv_icmp_ge (tgt := 116) hx hb (dk_at dkX4_acceptKey_2 5 rfl) (by decide) (fun c24 => ?_) (fun c24 => ?_)
            · have c24 : z5 ≤ z16 := (i_le (rb hw7 (by decide) (by decide)) (rb f21 (by decide) (by decide))).mp c24
              refine lv_iconst (v := iI 1) hx hb (dk_at dkX4_acceptKey_3 13 rfl) (by decide +kernel) ?_
              exact RET 1 _ _ _ _ _ ⟨hk1 _ _ ⟨0 + 1, (u_d_X4_acceptKey_1 ⟨gI23.out, ⟨f21, (Or.inl ⟨c24, ⟨rfl, rfl⟩⟩)⟩⟩)⟩, hI, fk.trans (fk.da (fk.da (fk.rf) hA14 (isS.b2 (o := fun b => List.contains [34, 35, 37, 38, 39, 40, 43, 44, 46, 47, 48, 49, 75, 76, 78, 79, 80, 81, 106, 107, 109, 110, 111, 112] (b + 2)) isS32 rfl rfl rfl rfl)) hA15 (isS.b2 (o := fun b => List.contains [34, 35, 37, 38, 39, 40, 43, 44, 46, 47, 48, 49, 75, 76, 78, 79, 80, 81, 106, 107, 109, 110, 111, 112] (b + 3)) isS32 rfl rfl rfl rfl)) hj17 rfl rfl, ⟨by decide, by decide⟩⟩ hP hS (dk_at dkX4_acceptKey_3 14 rfl)
            · have c24 : ¬ z5 ≤ z16 := mt (i_le (rb hw7 (by decide) (by decide)) (rb f21 (by decide) (by decide))).mpr c24
              refine lv_aload_n hx hb (dk_at dkX4_acceptKey_2 6 rfl) rfl (lv_at hl 5 rfl) ?_
              refine lv_iload hx hb (dk_at dkX4_acceptKey_2 7 rfl) (lv_at hl 7 rfl) ?_
              refine lv_iconst (v := iI 2) hx hb (dk_at dkX4_acceptKey_2 8 rfl) (by decide +kernel) ?_
              refine x_addv (v := x4 + 2) hx hb (dk_at dkX4_acceptKey_2 9 rfl) (by omega) ?_
              refine x_absE (fun z25 gz25 hz25 => ?_)
              refine lv_iload hx hb (dk_at dkX4_acceptKey_2 10 rfl) (lv_at hl 0 rfl) ?_
              refine x_addv (v := z25 + z16) hx hb (dk_at dkX4_acceptKey_2 11 rfl) (by omega) ?_
              refine x_absE (fun z26 gz26 hz26 => ?_)
              refine k_calli (As := [.int (iI z26)]) (rest := []) ⟨hx, hb, hml, hown, hts⟩ hE (kc_X7_at l dC dI cB cI cJ cZ cQ aL aS q _ z26 hI hz26) (cwV 1 hts (goodVk wkq_4_38 wkq_4_39 wkq_4_40 wkq_4_41 wkq_4_42) rfl rfl rfl (by decide +kernel) ⟨Nat.le_of_ble_eq_true rfl, Nat.le_of_ble_eq_true rfl⟩) hK hDD hA0 hP hS 1 7 (wkTP) rfl rfl hl.1 (Nat.le_of_ble_eq_true rfl) (dk_at dkX4_acceptKey_2 12 rfl) (fun z27 A28 H locs hw29 hP hS => ?_)
              obtain ⟨rfl, hw29⟩ := hw29
              have ghw29 : q_X7_at z26 A18 z27 := hw29
              have hw29 := hw29.2
              refine lv_istore (lv' := [(8, .int (iI z27)), (7, .int (iI z16)), (6, .int (iI z5)), (5, .int (iI z1)), (0, .ref (q 30)), (1, .ref (q ta)), (2, .ref (q 1)), (3, .int (iI x3)), (4, .int (iI x4))]) hx hb (dk_at dkX4_acceptKey_2 13 rfl) hl (by decide) rfl (fun ls hl => ?_)
              refine lv_aload_n hx hb (dk_at dkX4_acceptKey_2 14 rfl) rfl (lv_at hl 5 rfl) ?_
              refine lv_iconst (v := iI 1) hx hb (dk_at dkX4_acceptKey_2 15 rfl) (by decide +kernel) ?_
              refine lv_iload hx hb (dk_at dkX4_acceptKey_3 0 rfl) (lv_at hl 0 rfl) ?_
              refine k_calli (As := [.int (iI 1), .int (iI z27)]) (rest := []) ⟨hx, hb, hml, hown, hts⟩ hE (kc_X9_isThere_1_1 l dC dI cB cI cJ cZ cQ aL aS q _ ta z27 hI hta (rb hw29 (by decide) (by decide))) (cwV 2 hts (goodVk wkq_4_45 wkq_0_22 wkq_0_23 wkq_0_6 wkq_0_24) rfl rfl rfl (by decide +kernel) ⟨Nat.le_of_ble_eq_true rfl, Nat.le_of_ble_eq_true rfl⟩) hK hDD hA0 hP hS ta 9 (wkT hta) rfl rfl hl.1 (Nat.le_of_ble_eq_true rfl) (dk_at dkX4_acceptKey_3 1 rfl) (fun z30 A31 H locs hw32 hP hS => ?_)
              obtain ⟨rfl, hw32⟩ := hw32
              have ghw32 : q_X9_isThere_1_1 ta z27 A18 z30 := hw32
              have hw32 := hw32.2
              have rz30 : 0 ≤ z30 ∧ z30 ≤ 1 := hw32.1
              have hw32 := hw32.2
              refine lv_if_eq (tgt := 108) hx hb (dk_at dkX4_acceptKey_3 2 rfl) (by decide) (fun c33 => ?_) (fun c33 => ?_)
              · have c33 : z30 = 0 := (i_eq0 (rb rz30 (by decide) (by decide))).mp c33
                clear hw32
                refine lv_iconst (v := iI 0) hx hb (dk_at dkX4_acceptKey_3 9 rfl) (by decide +kernel) ?_
                exact RET 0 _ _ _ _ _ ⟨hk1 _ _ ⟨0 + 1, (u_d_X4_acceptKey_1 ⟨gI23.out, ⟨f21, (Or.inr ⟨c24, ⟨z25, gz25.out, ⟨z26, gz26.out, ⟨z27, ghw29, ⟨z30, ghw32, (Or.inl ⟨c33, ⟨rfl, rfl⟩⟩)⟩⟩⟩⟩⟩)⟩⟩)⟩, hI, fk.trans (fk.da (fk.da (fk.rf) hA14 (isS.b2 (o := fun b => List.contains [34, 35, 37, 38, 39, 40, 43, 44, 46, 47, 48, 49, 75, 76, 78, 79, 80, 81, 106, 107, 109, 110, 111, 112] (b + 2)) isS32 rfl rfl rfl rfl)) hA15 (isS.b2 (o := fun b => List.contains [34, 35, 37, 38, 39, 40, 43, 44, 46, 47, 48, 49, 75, 76, 78, 79, 80, 81, 106, 107, 109, 110, 111, 112] (b + 3)) isS32 rfl rfl rfl rfl)) hj17 rfl rfl, ⟨by decide, by decide⟩⟩ hP hS (dk_at dkX4_acceptKey_3 10 rfl)
              · have c33 : ¬ z30 = 0 := mt (i_eq0 (rb rz30 (by decide) (by decide))).mpr c33
                have hw32b := hw32 (by omega)
                clear hw32
                refine lv_aload_n hx hb (dk_at dkX4_acceptKey_3 3 rfl) rfl (lv_at hl 4 rfl) ?_
                refine va_get (D := (dC, dI)) (ci := 4) (v := .ref (q 32)) (C := RX4) (T := TX4) (N := 3) hx hb hts hiX4 hown hK hP 30 (wkPC) rfl 1 (by decide) (hts _ (List.mem_cons_of_mem _ wkq_4_30)) (fun _ h9 => h9) rfl (dk_at dkX4_acceptKey_3 4 rfl) ?_
                refine lv_iload_n hx hb (dk_at dkX4_acceptKey_3 5 rfl) rfl (lv_at hl 7 rfl) ?_
                refine lv_iload hx hb (dk_at dkX4_acceptKey_3 6 rfl) (lv_at hl 0 rfl) ?_
                refine k_calli (As := [.int (iI x3), .int (iI z27)]) (rest := []) ⟨hx, hb, hml, hown, hts⟩ hE (kc_X6_push l dC dI cB cI cJ cZ cQ aL aS q _ 32 x3 z27 hI isS32 (rb hx3 (by decide) (by decide)) (rb hw29 (by decide) (by decide))) (cwV 2 hts (goodVk wkq_4_54 wkq_4_55 wkq_4_56 wkq_0_52 wkq_4_57) rfl rfl rfl (by decide +kernel) ⟨Nat.le_of_ble_eq_true rfl, Nat.le_of_ble_eq_true rfl⟩) hK hDD hA0 hP hS 32 6 (wkS isS32) rfl rfl hl.1 (Nat.le_of_ble_eq_true rfl) (dk_at dkX4_acceptKey_3 7 rfl) (fun z34 A35 H locs hw36 hP hS => ?_)
                have ghw36 : q_X6_push 32 x3 z27 A18 z34 A35 := hw36
                obtain ⟨_, hI, hf37, hw36⟩ := hw36
                refine lv_if_ne (tgt := 110) hx hb (dk_at dkX4_acceptKey_3 8 rfl) (by decide) (fun c38 => ?_) (fun c38 => ?_)
                · have c38 : ¬ z34 = 0 := mt (i_eq0 (rb hw36 (by decide) (by decide))).mpr c38
                  refine lv_iinc (v := iI (z16 + 1)) (lv' := [(7, .int (iI (z16 + 1))), (8, .int (iI z27)), (6, .int (iI z5)), (5, .int (iI z1)), (0, .ref (q 30)), (1, .ref (q ta)), (2, .ref (q 1)), (3, .int (iI x3)), (4, .int (iI x4))]) hx hb (dk_at dkX4_acceptKey_3 11 rfl) hl (k := 1) rfl (i_inc (by omega)) (by decide) rfl (fun ls hl => ?_)
                  refine lv_goto (tgt := 65) hx hb (dk_at dkX4_acceptKey_3 12 rfl) (by decide) ?_
                  exact ih20 _ (by omega) (z16 + 1) _ _ _ _ (by omega) (fun zq uq ⟨mm1, hq⟩ => hk1 _ _ ⟨mm1 + 1, (u_d_X4_acceptKey_1 ⟨gI23.out, ⟨f21, (Or.inr ⟨c24, ⟨z25, gz25.out, ⟨z26, gz26.out, ⟨z27, ghw29, ⟨z30, ghw32, (Or.inr ⟨c33, ⟨z34, A35, ghw36, (Or.inl ⟨c38, hq⟩)⟩⟩)⟩⟩⟩⟩⟩)⟩⟩)⟩) rfl hI (fk.trans (fk.trans (fk.rf) hj17 rfl rfl) hf37 rfl rfl) hP hS (lv_sub hl [0, 2, 3, 4, 5, 6, 7, 8] rfl)
                · have c38 : z34 = 0 := (i_eq0 (rb hw36 (by decide) (by decide))).mp c38
                  refine lv_iconst (v := iI 0) hx hb (dk_at dkX4_acceptKey_3 9 rfl) (by decide +kernel) ?_
                  exact RET 0 _ _ _ _ _ ⟨hk1 _ _ ⟨0 + 1, (u_d_X4_acceptKey_1 ⟨gI23.out, ⟨f21, (Or.inr ⟨c24, ⟨z25, gz25.out, ⟨z26, gz26.out, ⟨z27, ghw29, ⟨z30, ghw32, (Or.inr ⟨c33, ⟨z34, A35, ghw36, (Or.inr ⟨c38, ⟨rfl, rfl⟩⟩)⟩⟩)⟩⟩⟩⟩⟩)⟩⟩)⟩, hI, fk.trans (fk.trans (fk.da (fk.da (fk.rf) hA14 (isS.b2 (o := fun b => List.contains [34, 35, 37, 38, 39, 40, 43, 44, 46, 47, 48, 49, 75, 76, 78, 79, 80, 81, 106, 107, 109, 110, 111, 112] (b + 2)) isS32 rfl rfl rfl rfl)) hA15 (isS.b2 (o := fun b => List.contains [34, 35, 37, 38, 39, 40, 43, 44, 46, 47, 48, 49, 75, 76, 78, 79, 80, 81, 106, 107, 109, 110, 111, 112] (b + 3)) isS32 rfl rfl rfl rfl)) hj17 rfl rfl) hf37 rfl rfl, ⟨by decide, by decide⟩⟩ hP hS (dk_at dkX4_acceptKey_3 10 rfl)
        exact L65_19 _ 0 _ _ _ _ (by omega) (fun zq uq ⟨mm1, hq⟩ => (u_r_X4_acceptKey ⟨z1, ghw3, ⟨z4, gz4.out, ⟨z5, ghw7, ⟨z8, ghw10, (Or.inr ⟨c11, (Or.inr ⟨c12, (Or.inl ⟨c13, ⟨A14, hA14, ⟨A15, hA15, ⟨mm1, hq⟩⟩⟩⟩)⟩)⟩)⟩⟩⟩⟩)) rfl hI (fk.rf) hP hS (lv_sub hl [0, 1, 2, 3, 4, 5, 6, 7] rfl)
      · have c13 : ¬ z5 ≤ 6 := mt (i_le (rb hw7 (by decide) (by decide)) ⟨by decide, by decide⟩).mpr c13
        refine lv_iconst (v := iI 0) hx hb (dk_at dkX4_acceptKey_1 3 rfl) (by decide +kernel) ?_
        exact RET 0 _ _ _ _ _ ⟨(u_r_X4_acceptKey ⟨z1, ghw3, ⟨z4, gz4.out, ⟨z5, ghw7, ⟨z8, ghw10, (Or.inr ⟨c11, (Or.inr ⟨c12, (Or.inr ⟨c13, ⟨rfl, rfl⟩⟩)⟩)⟩)⟩⟩⟩⟩), hI, fk.rf, ⟨by decide, by decide⟩⟩ hP hS (dk_at dkX4_acceptKey_1 4 rfl)

abbrev tr_d_X4_sumOf_1 (x2 : Int) (A : St) (z : Int) (K1 : Int → Int → Prop) (z1 : Int) (z2 : Int) : Prop := ((0 ≤ z1 ∧ z1 ≤ 2147483647) ∧ ((-2147483648 ≤ z2 ∧ z2 ≤ 2147483647) ∧ (((x2 ≤ z1) ∧ (z = z2)) ∨ ((¬ x2 ≤ z1) ∧ (((1600 ≤ z1) ∧ (z = z2)) ∨ ((¬ 1600 ≤ z1) ∧ (∃ z11 : Int, q_X7_at z1 A z11 ∧ (∃ z14 : Int, q_X4_summed z2 z11 A z14 ∧ (K1 (z1 + 1) z14)))))))))
def d_X4_sumOf_1 (x2 : Int) (A : St) (z : Int) : Nat → Int → Int → Prop
  | 0, _, _ => False
  | nn9 + 1, z1, z2 => tr_d_X4_sumOf_1 x2 A z (fun z1 z2 => d_X4_sumOf_1 x2 A z nn9 z1 z2) z1 z2
theorem u_d_X4_sumOf_1 {x2 : Int} {A : St} {z : Int} {nn9 : Nat} {z1 : Int} {z2 : Int} (h : tr_d_X4_sumOf_1 x2 A z (fun z1 z2 => d_X4_sumOf_1 x2 A z nn9 z1 z2) z1 z2) : d_X4_sumOf_1 x2 A z (nn9 + 1) z1 z2 := h
abbrev tr_r_X4_sumOf (x2 : Int) (A : St) (z : Int) : Prop := (∃ nn9 : Nat, d_X4_sumOf_1 x2 A z nn9 0 19)
def r_X4_sumOf (x2 : Int) (A : St) (z : Int) : Prop := tr_r_X4_sumOf x2 A z
theorem u_r_X4_sumOf {x2 : Int} {A : St} {z : Int} (h : tr_r_X4_sumOf x2 A z) : r_X4_sumOf x2 A z := h
def q_X4_sumOf (x2 : Int) (A : St) (z : Int) : Prop := r_X4_sumOf x2 A z ∧ (-2147483648 ≤ z ∧ z ≤ 2147483647)
def ws_kc_X4_sumOf : List Cond := .code yX4_sumOf cX4_sumOf 4 (some .int) :: WY
set_option maxHeartbeats 4000000 in
set_option maxRecDepth 100000 in
theorem kc_X4_sumOf (l : Launch) (dC : Nat → ClassId) (dI : Nat → Nat → Nat) (cB cI cJ cZ cQ : ClassId) (aL aS : Nat) (q : Nat → Nat) (A : St) (x2 : Int) (hI : IK A) (hx2 : (-2147483648 : Int) ≤ x2 ∧ x2 ≤ 2147483647) : KMi l yX4_sumOf ws_kc_X4_sumOf ({ frames := 1, cells := 0, slots := 0, locals := 21 } : Room) aL aS (dC, dI) (tyA cB cI cJ cZ cQ) (WK cB cI cJ cZ cQ q) A [.ref (q 1), .int (iI x2)] (fun z u => A = u ∧ r_X4_sumOf x2 A z ∧ (-2147483648 ≤ z ∧ z ≤ 2147483647)) := by
  refine k_meti (cc := cX4_sumOf) (maxL := 4) WK_adr (plainFor_of_name (by decide +kernel)) rfl (Nat.le_of_ble_eq_true rfl) (fun p e s m below meth c Q AS ls hx hb hml hown hts hK hDD hA0 hE RET H locs hP hS hl => ?_)
  have hown : s.vm.findClass RX4 = some m.cls := hown
  have hl : lv_has ls 4 [(0, .ref (q 1)), (1, .int (iI x2))] := hl
  refine lv_bipush (v := iI 19) hx hb (dk_at dkX4_sumOf_0 0 rfl) (by decide +kernel) ?_
  refine lv_istore_n (lv' := [(2, .int (iI 19)), (0, .ref (q 1)), (1, .int (iI x2))]) hx hb (dk_at dkX4_sumOf_0 1 rfl) rfl hl (by decide) rfl (fun ls hl => ?_)
  refine lv_iconst (v := iI 0) hx hb (dk_at dkX4_sumOf_0 2 rfl) (by decide +kernel) ?_
  refine lv_istore_n (lv' := [(3, .int (iI 0)), (2, .int (iI 19)), (0, .ref (q 1)), (1, .int (iI x2))]) hx hb (dk_at dkX4_sumOf_0 3 rfl) rfl hl (by decide) rfl (fun ls hl => ?_)
  have L5_4 : ∀ (n8 : Nat) (z1 z2 : Int) (H : Heap) (locs : List Loc) (ls : Array Slot), (0 ≤ z1 ∧ z1 ≤ 2147483647) → (-2147483648 ≤ z2 ∧ z2 ≤ 2147483647) → (∀ (z : Int), (∃ mm1 : Nat, (d_X4_sumOf_1 x2 A z mm1 z1 z2)) → r_X4_sumOf x2 A z) → ((2147483648 - z1).toNat = n8) → va_P (dC, dI) vwCl (WK cB cI cJ cZ cQ q A) H → va_S AS s.heap H locs → lv_has ls 4 [(3, .int (iI z1)), (2, .int (iI z2)), (0, .ref (q 1)), (1, .int (iI x2))] → W p l e (headSpec ws_kc_X4_sumOf ({ frames := 1, cells := 0, slots := 0, locals := 21 } : Room)).room s m [.ref (q 1), .int (iI x2)].toArray below meth c H locs 0 0 Q (F0 m 5 ls []) := by
    intro n8
    induction n8 using Nat.strongRecOn with
    | ind n8 ih5 =>
      intro z1 z2 H locs ls f6 f7 hk1 hn8 hP hS hl
      refine lv_iload_n hx hb (dk_at dkX4_sumOf_0 4 rfl) rfl (lv_at hl 0 rfl) ?_
      refine lv_iload_n hx hb (dk_at dkX4_sumOf_0 5 rfl) rfl (lv_at hl 3 rfl) ?_
      refine lv_icmp_ge (tgt := 33) hx hb (dk_at dkX4_sumOf_0 6 rfl) (by decide) (fun c9 => ?_) (fun c9 => ?_)
      · have c9 : x2 ≤ z1 := (i_le hx2 (rb f6 (by decide) (by decide))).mp c9
        refine lv_iload_n hx hb (dk_at dkX4_sumOf_1 2 rfl) rfl (lv_at hl 1 rfl) ?_
        exact RET z2 _ _ _ _ _ ⟨rfl, hk1 _ ⟨0 + 1, (u_d_X4_sumOf_1 ⟨f6, ⟨f7, (Or.inl ⟨c9, rfl⟩)⟩⟩)⟩, f7⟩ hP hS (dk_at dkX4_sumOf_1 3 rfl)
      · have c9 : ¬ x2 ≤ z1 := mt (i_le hx2 (rb f6 (by decide) (by decide))).mpr c9
        refine lv_iload_n hx hb (dk_at dkX4_sumOf_0 7 rfl) rfl (lv_at hl 0 rfl) ?_
        refine lv_sipush (v := iI 1600) hx hb (dk_at dkX4_sumOf_0 8 rfl) (by decide +kernel) ?_
        refine lv_icmp_ge (tgt := 33) hx hb (dk_at dkX4_sumOf_0 9 rfl) (by decide) (fun c10 => ?_) (fun c10 => ?_)
        · have c10 : 1600 ≤ z1 := (i_le ⟨by decide, by decide⟩ (rb f6 (by decide) (by decide))).mp c10
          refine lv_iload_n hx hb (dk_at dkX4_sumOf_1 2 rfl) rfl (lv_at hl 1 rfl) ?_
          exact RET z2 _ _ _ _ _ ⟨rfl, hk1 _ ⟨0 + 1, (u_d_X4_sumOf_1 ⟨f6, ⟨f7, (Or.inr ⟨c9, (Or.inl ⟨c10, rfl⟩)⟩)⟩⟩)⟩, f7⟩ hP hS (dk_at dkX4_sumOf_1 3 rfl)
        · have c10 : ¬ 1600 ≤ z1 := mt (i_le ⟨by decide, by decide⟩ (rb f6 (by decide) (by decide))).mpr c10
          refine lv_iload_n hx hb (dk_at dkX4_sumOf_0 10 rfl) rfl (lv_at hl 1 rfl) ?_
          refine lv_aload_n hx hb (dk_at dkX4_sumOf_0 11 rfl) rfl (lv_at hl 2 rfl) ?_
          refine lv_iload_n hx hb (dk_at dkX4_sumOf_0 12 rfl) rfl (lv_at hl 0 rfl) ?_
          refine k_calli (As := [.int (iI z1)]) (rest := [.int (iI z2)]) ⟨hx, hb, hml, hown, hts⟩ hE (kc_X7_at l dC dI cB cI cJ cZ cQ aL aS q _ z1 hI (rb f6 (by decide) (by decide))) (cwV 1 hts (goodVk wkq_4_38 wkq_4_39 wkq_4_40 wkq_4_41 wkq_4_42) rfl rfl rfl (by decide +kernel) ⟨Nat.le_of_ble_eq_true rfl, Nat.le_of_ble_eq_true rfl⟩) hK hDD hA0 hP hS 1 7 (wkTP) rfl rfl hl.1 (Nat.le_of_ble_eq_true rfl) (dk_at dkX4_sumOf_0 13 rfl) (fun z11 A12 H locs hw13 hP hS => ?_)
          obtain ⟨rfl, hw13⟩ := hw13
          have ghw13 : q_X7_at z1 A z11 := hw13
          have hw13 := hw13.2
          refine k_callSi (As := [.int (iI z2), .int (iI z11)]) (rest := []) ⟨hx, hb, hml, hown, hts⟩ hE (kc_X4_summed l dC dI cB cI cJ cZ cQ aL aS q _ z2 z11 hI f7 (rb hw13 (by decide) (by decide))) (va_cwS 2 hts (goodSk wkq_4_26 wkq_4_27 wkq_4_23 wkq_4_28) rfl rfl rfl (by decide +kernel) ⟨Nat.le_of_ble_eq_true rfl, Nat.le_of_ble_eq_true rfl⟩) hK hDD hA0 hP hS rfl hl.1 (Nat.le_of_ble_eq_true rfl) (dk_at dkX4_sumOf_0 14 rfl) (fun z14 A15 H locs hw16 hP hS => ?_)
          obtain ⟨rfl, hw16⟩ := hw16
          have ghw16 : q_X4_summed z2 z11 A z14 := hw16
          have hw16 := hw16.2
          refine lv_istore_n (lv' := [(2, .int (iI z14)), (3, .int (iI z1)), (0, .ref (q 1)), (1, .int (iI x2))]) hx hb (dk_at dkX4_sumOf_0 15 rfl) rfl hl (by decide) rfl (fun ls hl => ?_)
          refine lv_iinc (v := iI (z1 + 1)) (lv' := [(3, .int (iI (z1 + 1))), (2, .int (iI z14)), (0, .ref (q 1)), (1, .int (iI x2))]) hx hb (dk_at dkX4_sumOf_1 0 rfl) hl (k := 1) rfl (i_inc (by omega)) (by decide) rfl (fun ls hl => ?_)
          refine lv_goto (tgt := 5) hx hb (dk_at dkX4_sumOf_1 1 rfl) (by decide) ?_
          exact ih5 _ (by omega) (z1 + 1) z14 _ _ _ (by omega) (by omega) (fun zq ⟨mm1, hq⟩ => hk1 _ ⟨mm1 + 1, (u_d_X4_sumOf_1 ⟨f6, ⟨f7, (Or.inr ⟨c9, (Or.inr ⟨c10, ⟨z11, ghw13, ⟨z14, ghw16, hq⟩⟩⟩)⟩)⟩⟩)⟩) rfl hP hS (lv_sub hl [0, 1, 2, 3] rfl)
  exact L5_4 _ 0 19 _ _ _ (by omega) (by omega) (fun zq ⟨mm1, hq⟩ => (u_r_X4_sumOf ⟨mm1, hq⟩)) rfl hP hS (lv_sub hl [0, 1, 2, 3] rfl)

abbrev tr_d_X4_accept_2 (ta : Nat) (A : St) (z : Int) (u : St) (K2 : Int → Int → St → Prop) (z21 : Int) (z22 : Int) (A24 : St) : Prop := ((IK A24) ∧ ((0 ≤ z21 ∧ z21 ≤ 2147483647) ∧ ((-2147483648 ≤ z22 ∧ z22 ≤ 2147483647) ∧ (∃ z34 : Int, z34 = A24 (ta + 1) (2 : Int).toNat ∧ (((z34 ≤ z21) ∧ (∃ z40 : Int, z40 = oWrap (z22 + 1) ∧ (((¬ (A 1 1) = z40) ∧ (z = 0 ∧ u = A24)) ∨ (((A 1 1) = z40) ∧ (∃ z42 : Int, q_X7_at z22 A24 z42 ∧ (∃ z45 : Int, q_X4_sumOf z22 A24 z45 ∧ (((z42 = z45) ∧ (∃ A49 : St, q_X6_copyFrom (ta + 22) 32 A24 A49 ∧ (z = 1 ∧ u = A49))) ∨ ((¬ z42 = z45) ∧ (z = 0 ∧ u = A24))))))))) ∨ ((¬ z34 ≤ z21) ∧ (∃ z52 : Int, ∃ A53 : St, q_X4_acceptKey ta z21 z22 A24 z52 A53 ∧ (((¬ z52 = 0) ∧ (∃ z57 : Int, z57 = A53 (32 + 3) (z21).toNat ∧ (∃ z58 : Int, z58 = oWrap (z22 + z57 + 2) ∧ (K2 (z21 + 1) z58 A53)))) ∨ ((z52 = 0) ∧ (z = 0 ∧ u = A53))))))))))
def d_X4_accept_2 (ta : Nat) (A : St) (z : Int) (u : St) : Nat → Int → Int → St → Prop
  | 0, _, _, _ => False
  | nn9 + 1, z21, z22, A24 => tr_d_X4_accept_2 ta A z u (fun z21 z22 A24 => d_X4_accept_2 ta A z u nn9 z21 z22 A24) z21 z22 A24
theorem u_d_X4_accept_2 {ta : Nat} {A : St} {z : Int} {u : St} {nn9 : Nat} {z21 : Int} {z22 : Int} {A24 : St} (h : tr_d_X4_accept_2 ta A z u (fun z21 z22 A24 => d_X4_accept_2 ta A z u nn9 z21 z22 A24) z21 z22 A24) : d_X4_accept_2 ta A z u (nn9 + 1) z21 z22 A24 := h
abbrev tr_d_X4_accept_1 (ta : Nat) (A : St) (z : Int) (u : St) (K1 : Int → Int → St → Prop) (z4 : Int) (z5 : Int) (A7 : St) : Prop := ((IK A7) ∧ ((0 ≤ z4 ∧ z4 ≤ 2147483647) ∧ ((-2147483648 ≤ z5 ∧ z5 ≤ 2147483647) ∧ (∃ z19 : Int, z19 = A7 (ta + 1) (3 : Int).toNat ∧ (((z19 ≤ z4) ∧ (∃ nn9 : Nat, d_X4_accept_2 ta A z u nn9 0 z5 A7)) ∨ ((¬ z19 ≤ z4) ∧ (∃ z59 : Int, q_X7_at z5 A7 z59 ∧ (∃ z62 : Int, q_X9_isThere_1_0 ta z59 A7 z62 ∧ (((¬ z62 = 0) ∧ (∃ A66 : St, A66 = stA A7 (32 + 1) (z4).toNat z59 ∧ (∃ z67 : Int, z67 = oWrap (z5 + 1) ∧ (K1 (z4 + 1) z67 A66)))) ∨ ((z62 = 0) ∧ (z = 0 ∧ u = A7)))))))))))
def d_X4_accept_1 (ta : Nat) (A : St) (z : Int) (u : St) : Nat → Int → Int → St → Prop
  | 0, _, _, _ => False
  | nn9 + 1, z4, z5, A7 => tr_d_X4_accept_1 ta A z u (fun z4 z5 A7 => d_X4_accept_1 ta A z u nn9 z4 z5 A7) z4 z5 A7
theorem u_d_X4_accept_1 {ta : Nat} {A : St} {z : Int} {u : St} {nn9 : Nat} {z4 : Int} {z5 : Int} {A7 : St} (h : tr_d_X4_accept_1 ta A z u (fun z4 z5 A7 => d_X4_accept_1 ta A z u nn9 z4 z5 A7) z4 z5 A7) : d_X4_accept_1 ta A z u (nn9 + 1) z4 z5 A7 := h
abbrev tr_r_X4_accept (ta : Nat) (A : St) (z : Int) (u : St) : Prop := (∃ A1 : St, q_X6_copyFrom 32 (ta + 22) A A1 ∧ (∃ nn9 : Nat, d_X4_accept_1 ta A z u nn9 0 0 A1))
def r_X4_accept (ta : Nat) (A : St) (z : Int) (u : St) : Prop := tr_r_X4_accept ta A z u
theorem u_r_X4_accept {ta : Nat} {A : St} {z : Int} {u : St} (h : tr_r_X4_accept ta A z u) : r_X4_accept ta A z u := h
def q_X4_accept (ta : Nat) (A : St) (z : Int) (u : St) : Prop := r_X4_accept ta A z u ∧ IK u ∧ fk [33, 34, 35, 37, 38, 39, 40, 42, 43, 44, 46, 47, 48, 49, 74, 75, 76, 78, 79, 80, 81, 105, 106, 107, 109, 110, 111, 112] [] A u ∧ (0 ≤ z ∧ z ≤ 1)
def ws_kc_X4_accept : List Cond := .code yX4_accept cX4_accept 6 (some .boolean) :: WY
set_option maxHeartbeats 4000000 in
set_option maxRecDepth 100000 in
theorem kc_X4_accept (l : Launch) (dC : Nat → ClassId) (dI : Nat → Nat → Nat) (cB cI cJ cZ cQ : ClassId) (aL aS : Nat) (q : Nat → Nat) (A : St) (ta : Nat) (hI : IK A) (hta : isT ta) : KMi l yX4_accept ws_kc_X4_accept ({ frames := 4, cells := 0, slots := 0, locals := 96 } : Room) aL aS (dC, dI) (tyA cB cI cJ cZ cQ) (WK cB cI cJ cZ cQ q) A [.ref (q 30), .ref (q ta), .ref (q 1)] (fun z u => r_X4_accept ta A z u ∧ IK u ∧ fk [33, 34, 35, 37, 38, 39, 40, 42, 43, 44, 46, 47, 48, 49, 74, 75, 76, 78, 79, 80, 81, 105, 106, 107, 109, 110, 111, 112] [] A u ∧ (0 ≤ z ∧ z ≤ 1)) := by
  refine k_metz (cc := cX4_accept) (maxL := 6) WK_adr (plainFor_of_name (by decide +kernel)) rfl (Nat.le_of_ble_eq_true rfl) (fun z u h => h.2.2.2) (fun p e s m below meth c Q AS ls hx hb hml hown hts hK hDD hA0 hE RET H locs hP hS hl => ?_)
  have hown : s.vm.findClass RX4 = some m.cls := hown
  have hl : lv_has ls 6 [(0, .ref (q 30)), (1, .ref (q ta)), (2, .ref (q 1))] := hl
  have hiX4 : ∀ w ∈ u_ws RX4 TX4 3, w ∈ ws_kc_X4_accept := fun w h => List.mem_cons_of_mem _ (wy_layX4 w h)
  have hiX9 : ∀ w ∈ u_ws RX9 TX9 16, w ∈ ws_kc_X4_accept := fun w h => List.mem_cons_of_mem _ (wy_layX9 w h)
  have hiX7 : ∀ w ∈ u_ws RX7 TX7 2, w ∈ ws_kc_X4_accept := fun w h => List.mem_cons_of_mem _ (wy_layX7 w h)
  have hiX6 : ∀ w ∈ u_ws RX6 TX6 4, w ∈ ws_kc_X4_accept := fun w h => List.mem_cons_of_mem _ (wy_layX6 w h)
  refine lv_aload_n hx hb (dk_at dkX4_accept_0 0 rfl) rfl (lv_at hl 0 rfl) ?_
  refine va_get (D := (dC, dI)) (ci := 4) (v := .ref (q 32)) (C := RX4) (T := TX4) (N := 3) hx hb hts hiX4 hown hK hP 30 (wkPC) rfl 1 (by decide) (hts _ (List.mem_cons_of_mem _ wkq_4_30)) (fun _ h9 => h9) rfl (dk_at dkX4_accept_0 1 rfl) ?_
  refine lv_aload_n hx hb (dk_at dkX4_accept_0 2 rfl) rfl (lv_at hl 1 rfl) ?_
  refine va_get (D := (dC, dI)) (ci := 9) (v := .ref (q (ta + 22))) (C := RX9) (T := TX9) (N := 16) hx hb hts hiX9 hown hK hP ta (wkT hta) rfl 14 (by decide) (hts _ (List.mem_cons_of_mem _ wkq_4_15)) (fun _ h9 => h9) rfl (dk_at dkX4_accept_0 3 rfl) ?_
  refine k_callv (As := [.ref (q (ta + 22))]) (rest := []) ⟨hx, hb, hml, hown, hts⟩ hE (kc_X6_copyFrom l dC dI cB cI cJ cZ cQ aL aS q _ 32 (ta + 22) hI isS32 hta.s) (cwV 1 hts (goodVk wkq_4_32 wkq_4_33 wkq_4_34 wkq_0_52 wkq_4_35) rfl rfl rfl (by decide +kernel) ⟨Nat.le_of_ble_eq_true rfl, Nat.le_of_ble_eq_true rfl⟩) hK hDD hA0 hP hS 32 6 (wkS isS32) rfl rfl hl.1 (Nat.le_of_ble_eq_true rfl) (dk_at dkX4_accept_0 4 rfl) (fun A1 H locs hw2 hP hS => ?_)
  have ghw2 : q_X6_copyFrom 32 (ta + 22) A A1 := hw2
  obtain ⟨_, hI, hf3, hw2⟩ := hw2
  clear hw2
  refine lv_iconst (v := iI 0) hx hb (dk_at dkX4_accept_0 5 rfl) (by decide +kernel) ?_
  refine lv_istore_n (lv' := [(3, .int (iI 0)), (0, .ref (q 30)), (1, .ref (q ta)), (2, .ref (q 1))]) hx hb (dk_at dkX4_accept_0 6 rfl) rfl hl (by decide) rfl (fun ls hl => ?_)
  refine lv_iconst (v := iI 0) hx hb (dk_at dkX4_accept_0 7 rfl) (by decide +kernel) ?_
  refine lv_istore (lv' := [(4, .int (iI 0)), (3, .int (iI 0)), (0, .ref (q 30)), (1, .ref (q ta)), (2, .ref (q 1))]) hx hb (dk_at dkX4_accept_0 8 rfl) hl (by decide) rfl (fun ls hl => ?_)
  have L16_8 : ∀ (n15 : Nat) (z4 z5 : Int) (A7 : St) (H : Heap) (locs : List Loc) (ls : Array Slot), (0 ≤ z4 ∧ z4 ≤ 2147483647) → (-2147483648 ≤ z5 ∧ z5 ≤ 2147483647) → (∀ (z : Int) (u : St), (∃ mm1 : Nat, (d_X4_accept_1 ta A z u mm1 z4 z5 A7)) → r_X4_accept ta A z u) → ((4 - z4).toNat = n15) → IK A7 → fk [33, 42, 74, 105] [] A1 A7 → va_P (dC, dI) vwCl (WK cB cI cJ cZ cQ q A7) H → va_S AS s.heap H locs → lv_has ls 6 [(4, .int (iI z4)), (3, .int (iI z5)), (0, .ref (q 30)), (1, .ref (q ta)), (2, .ref (q 1))] → W p l e (headSpec ws_kc_X4_accept ({ frames := 4, cells := 0, slots := 0, locals := 96 } : Room)).room s m [.ref (q 30), .ref (q ta), .ref (q 1)].toArray below meth c H locs 0 0 Q (F0 m 16 ls []) := by
    intro n15
    induction n15 using Nat.strongRecOn with
    | ind n15 ih9 =>
      intro z4 z5 A7 H locs ls f10 f11 hk1 hn15 hI hj6 hP hS hl
      have gI16 : Hd (IK A7) := Hd.mk hI
      refine lv_iload hx hb (dk_at dkX4_accept_0 9 rfl) (lv_at hl 0 rfl) ?_
      refine lv_aload_n hx hb (dk_at dkX4_accept_0 10 rfl) rfl (lv_at hl 3 rfl) ?_
      refine va_get (D := (dC, dI)) (ci := 9) (v := .ref (q (ta + 1))) (C := RX9) (T := TX9) (N := 16) hx hb hts hiX9 hown hK hP ta (wkT hta) rfl 0 (by decide) (hts _ (List.mem_cons_of_mem _ wkq_4_14)) (fun _ h9 => h9) rfl (dk_at dkX4_accept_0 11 rfl) ?_
      refine lv_iconst (v := iI 3) hx hb (dk_at dkX4_accept_0 12 rfl) (by decide +kernel) ?_
      have a18 : ∀ k, A1 (ta + 1) k = A (ta + 1) k := fun k => hf3 (ta + 1) k (isT.b2 (o := fun b => List.contains [33, 34, 35, 37, 38, 39, 40, 42, 43, 44, 46, 47, 48, 49, 74, 75, 76, 78, 79, 80, 81, 105, 106, 107, 109, 110, 111, 112] (b + 1)) hta rfl rfl) (isT.b2 (o := fun b => fin2 [] (b + 1) k) hta rfl rfl)
      have a17 : ∀ k, A7 (ta + 1) k = A (ta + 1) k := fun k => (hj6 (ta + 1) k (isT.b2 (o := fun b => List.contains [33, 42, 74, 105] (b + 1)) hta rfl rfl) (isT.b2 (o := fun b => fin2 [] (b + 1) k) hta rfl rfl)).trans (a18 k)
      refine x_iald (Wf := WK cB cI cJ cZ cQ q) hx hb hK hP (ta + 1) 1 (wkTc hta) rfl (by decide) (by decide) (dk_at dkX4_accept_0 13 rfl) (fun z19 hz19 => ?_)
      have rz19 : (0 : Int) ≤ z19 ∧ z19 ≤ 3 := by rw [hz19]; exact irTc3 hta hI
      have gz19 := Hd.mk hz19
      have hz19 : z19 = A (ta + 1) (3 : Int).toNat := hz19.trans (a17 _)
      refine lv_icmp_ge (tgt := 67) hx hb (dk_at dkX4_accept_0 14 rfl) (by decide) (fun c20 => ?_) (fun c20 => ?_)
      · have c20 : z19 ≤ z4 := (i_le (rb rz19 (by decide) (by decide)) (rb f10 (by decide) (by decide))).mp c20
        refine lv_iconst (v := iI 0) hx hb (dk_at dkX4_accept_2 3 rfl) (by decide +kernel) ?_
        refine lv_istore (lv' := [(4, .int (iI 0)), (3, .int (iI z5)), (0, .ref (q 30)), (1, .ref (q ta)), (2, .ref (q 1))]) hx hb (dk_at dkX4_accept_2 4 rfl) hl (by decide) rfl (fun ls hl => ?_)
        have L70_25 : ∀ (n31 : Nat) (z21 z22 : Int) (A24 : St) (H : Heap) (locs : List Loc) (ls : Array Slot), (0 ≤ z21 ∧ z21 ≤ 2147483647) → (-2147483648 ≤ z22 ∧ z22 ≤ 2147483647) → (∀ (z : Int) (u : St), (∃ mm1 mm2 : Nat, (d_X4_accept_2 ta A z u mm2 z21 z22 A24)) → r_X4_accept ta A z u) → ((5 - z21).toNat = n31) → IK A24 → fk [34, 35, 37, 38, 39, 40, 43, 44, 46, 47, 48, 49, 75, 76, 78, 79, 80, 81, 106, 107, 109, 110, 111, 112] [] A7 A24 → va_P (dC, dI) vwCl (WK cB cI cJ cZ cQ q A24) H → va_S AS s.heap H locs → lv_has ls 6 [(4, .int (iI z21)), (3, .int (iI z22)), (0, .ref (q 30)), (1, .ref (q ta)), (2, .ref (q 1))] → W p l e (headSpec ws_kc_X4_accept ({ frames := 4, cells := 0, slots := 0, locals := 96 } : Room)).room s m [.ref (q 30), .ref (q ta), .ref (q 1)].toArray below meth c H locs 0 0 Q (F0 m 70 ls []) := by
          intro n31
          induction n31 using Nat.strongRecOn with
          | ind n31 ih26 =>
            intro z21 z22 A24 H locs ls f27 f28 hk2 hn31 hI hj23 hP hS hl
            have gI32 : Hd (IK A24) := Hd.mk hI
            refine lv_iload hx hb (dk_at dkX4_accept_2 5 rfl) (lv_at hl 0 rfl) ?_
            refine lv_aload_n hx hb (dk_at dkX4_accept_2 6 rfl) rfl (lv_at hl 3 rfl) ?_
            refine va_get (D := (dC, dI)) (ci := 9) (v := .ref (q (ta + 1))) (C := RX9) (T := TX9) (N := 16) hx hb hts hiX9 hown hK hP ta (wkT hta) rfl 0 (by decide) (hts _ (List.mem_cons_of_mem _ wkq_4_14)) (fun _ h9 => h9) rfl (dk_at dkX4_accept_2 7 rfl) ?_
            refine lv_iconst (v := iI 2) hx hb (dk_at dkX4_accept_2 8 rfl) (by decide +kernel) ?_
            have a33 : ∀ k, A24 (ta + 1) k = A (ta + 1) k := fun k => (hj23 (ta + 1) k (isT.b2 (o := fun b => List.contains [34, 35, 37, 38, 39, 40, 43, 44, 46, 47, 48, 49, 75, 76, 78, 79, 80, 81, 106, 107, 109, 110, 111, 112] (b + 1)) hta rfl rfl) (isT.b2 (o := fun b => fin2 [] (b + 1) k) hta rfl rfl)).trans (a17 k)
            refine x_iald (Wf := WK cB cI cJ cZ cQ q) hx hb hK hP (ta + 1) 1 (wkTc hta) rfl (by decide) (by decide) (dk_at dkX4_accept_2 9 rfl) (fun z34 hz34 => ?_)
            have rz34 : (0 : Int) ≤ z34 ∧ z34 ≤ 4 := by rw [hz34]; exact irTc2 hta hI
            have gz34 := Hd.mk hz34
            have hz34 : z34 = A (ta + 1) (2 : Int).toNat := hz34.trans (a33 _)
            refine lv_icmp_ge (tgt := 116) hx hb (dk_at dkX4_accept_2 10 rfl) (by decide) (fun c35 => ?_) (fun c35 => ?_)
            · have c35 : z34 ≤ z21 := (i_le (rb rz34 (by decide) (by decide)) (rb f27 (by decide) (by decide))).mp c35
              refine lv_aload_n hx hb (dk_at dkX4_accept_4 0 rfl) rfl (lv_at hl 4 rfl) ?_
              have e38 : A1 1 1 = (A 1 1) := (hf3 1 1 rfl rfl)
              have e37 : A7 1 1 = (A 1 1) := (hj6 1 1 rfl rfl).trans e38
              have e36 : A24 1 1 = (A 1 1) := (hj23 1 1 rfl rfl).trans e37
              have r39 : (0 : Int) ≤ (A 1 1) ∧ (A 1 1) ≤ 1600 := by rw [← e36]; exact irTP_1 hI
              refine va_get (D := (dC, dI)) (ci := 7) (v := .int (iI (A24 1 1))) (C := RX7) (T := TX7) (N := 2) hx hb hts hiX7 hown hK hP 1 (wkTP) rfl 1 (by decide) (hts _ (List.mem_cons_of_mem _ wkq_4_31)) (fun _ h9 => h9) rfl (dk_at dkX4_accept_4 1 rfl) ?_
              refine tp_i (y := iI (A 1 1)) (congrArg iI e36) ?_
              refine lv_iload_n hx hb (dk_at dkX4_accept_4 2 rfl) rfl (lv_at hl 1 rfl) ?_
              refine lv_iconst (v := iI 1) hx hb (dk_at dkX4_accept_4 3 rfl) (by decide +kernel) ?_
              refine x_addv (v := z22 + 1) hx hb (dk_at dkX4_accept_4 4 rfl) (by omega) ?_
              refine x_absE (fun z40 gz40 hz40 => ?_)
              refine lv_icmp_ne (tgt := 139) hx hb (dk_at dkX4_accept_4 5 rfl) (by decide) (fun c41 => ?_) (fun c41 => ?_)
              · have c41 : ¬ (A 1 1) = z40 := mt (i_eq (rb r39 (by decide) (by decide)) hz40).mpr c41
                refine lv_iconst (v := iI 0) hx hb (dk_at dkX4_accept_4 13 rfl) (by decide +kernel) ?_
                exact RET 0 _ _ _ _ _ ⟨hk2 _ _ ⟨0, 0 + 1, (u_d_X4_accept_2 ⟨gI32.out, ⟨f27, ⟨f28, ⟨z34, gz34.out, (Or.inl ⟨c35, ⟨z40, gz40.out, (Or.inl ⟨c41, ⟨rfl, rfl⟩⟩)⟩⟩)⟩⟩⟩⟩)⟩, hI, fk.trans (fk.trans (fk.trans (fk.rf) hf3 rfl rfl) hj6 rfl rfl) hj23 rfl rfl, ⟨by decide, by decide⟩⟩ hP hS (dk_at dkX4_accept_4 14 rfl)
              · have c41 : (A 1 1) = z40 := (i_eq (rb r39 (by decide) (by decide)) hz40).mp c41
                refine lv_aload_n hx hb (dk_at dkX4_accept_4 6 rfl) rfl (lv_at hl 4 rfl) ?_
                refine lv_iload_n hx hb (dk_at dkX4_accept_4 7 rfl) rfl (lv_at hl 1 rfl) ?_
                refine k_calli (As := [.int (iI z22)]) (rest := []) ⟨hx, hb, hml, hown, hts⟩ hE (kc_X7_at l dC dI cB cI cJ cZ cQ aL aS q _ z22 hI f28) (cwV 1 hts (goodVk wkq_4_38 wkq_4_39 wkq_4_40 wkq_4_41 wkq_4_42) rfl rfl rfl (by decide +kernel) ⟨Nat.le_of_ble_eq_true rfl, Nat.le_of_ble_eq_true rfl⟩) hK hDD hA0 hP hS 1 7 (wkTP) rfl rfl hl.1 (Nat.le_of_ble_eq_true rfl) (dk_at dkX4_accept_4 8 rfl) (fun z42 A43 H locs hw44 hP hS => ?_)
                obtain ⟨rfl, hw44⟩ := hw44
                have ghw44 : q_X7_at z22 A24 z42 := hw44
                have hw44 := hw44.2
                refine lv_aload_n hx hb (dk_at dkX4_accept_4 9 rfl) rfl (lv_at hl 4 rfl) ?_
                refine lv_iload_n hx hb (dk_at dkX4_accept_4 10 rfl) rfl (lv_at hl 1 rfl) ?_
                refine k_callSi (As := [.ref (q 1), .int (iI z22)]) (rest := [.int (iI z42)]) ⟨hx, hb, hml, hown, hts⟩ hE (kc_X4_sumOf l dC dI cB cI cJ cZ cQ aL aS q _ z22 hI f28) (va_cwS 2 hts (goodSk wkq_5_2 wkq_5_3 wkq_4_23 wkq_5_4) rfl rfl rfl (by decide +kernel) ⟨Nat.le_of_ble_eq_true rfl, Nat.le_of_ble_eq_true rfl⟩) hK hDD hA0 hP hS rfl hl.1 (Nat.le_of_ble_eq_true rfl) (dk_at dkX4_accept_4 11 rfl) (fun z45 A46 H locs hw47 hP hS => ?_)
                obtain ⟨rfl, hw47⟩ := hw47
                have ghw47 : q_X4_sumOf z22 A24 z45 := hw47
                have hw47 := hw47.2
                refine lv_icmp_eq (tgt := 141) hx hb (dk_at dkX4_accept_4 12 rfl) (by decide) (fun c48 => ?_) (fun c48 => ?_)
                · have c48 : z42 = z45 := (i_eq (rb hw44 (by decide) (by decide)) hw47).mp c48
                  refine lv_aload_n hx hb (dk_at dkX4_accept_4 15 rfl) rfl (lv_at hl 3 rfl) ?_
                  refine va_get (D := (dC, dI)) (ci := 9) (v := .ref (q (ta + 22))) (C := RX9) (T := TX9) (N := 16) hx hb hts hiX9 hown hK hP ta (wkT hta) rfl 14 (by decide) (hts _ (List.mem_cons_of_mem _ wkq_4_15)) (fun _ h9 => h9) rfl (dk_at dkX4_accept_5 0 rfl) ?_
                  refine lv_aload_n hx hb (dk_at dkX4_accept_5 1 rfl) rfl (lv_at hl 2 rfl) ?_
                  refine va_get (D := (dC, dI)) (ci := 4) (v := .ref (q 32)) (C := RX4) (T := TX4) (N := 3) hx hb hts hiX4 hown hK hP 30 (wkPC) rfl 1 (by decide) (hts _ (List.mem_cons_of_mem _ wkq_4_30)) (fun _ h9 => h9) rfl (dk_at dkX4_accept_5 2 rfl) ?_
                  refine k_callv (As := [.ref (q 32)]) (rest := []) ⟨hx, hb, hml, hown, hts⟩ hE (kc_X6_copyFrom l dC dI cB cI cJ cZ cQ aL aS q _ (ta + 22) 32 hI hta.s isS32) (cwV 1 hts (goodVk wkq_4_32 wkq_4_33 wkq_4_34 wkq_0_52 wkq_4_35) rfl rfl rfl (by decide +kernel) ⟨Nat.le_of_ble_eq_true rfl, Nat.le_of_ble_eq_true rfl⟩) hK hDD hA0 hP hS (ta + 22) 6 (wkS hta.s) rfl rfl hl.1 (Nat.le_of_ble_eq_true rfl) (dk_at dkX4_accept_5 3 rfl) (fun A49 H locs hw50 hP hS => ?_)
                  have ghw50 : q_X6_copyFrom (ta + 22) 32 A24 A49 := hw50
                  obtain ⟨_, hI, hf51, hw50⟩ := hw50
                  clear hw50
                  refine lv_iconst (v := iI 1) hx hb (dk_at dkX4_accept_5 4 rfl) (by decide +kernel) ?_
                  exact RET 1 _ _ _ _ _ ⟨hk2 _ _ ⟨0, 0 + 1, (u_d_X4_accept_2 ⟨gI32.out, ⟨f27, ⟨f28, ⟨z34, gz34.out, (Or.inl ⟨c35, ⟨z40, gz40.out, (Or.inr ⟨c41, ⟨z42, ghw44, ⟨z45, ghw47, (Or.inl ⟨c48, ⟨A49, ghw50, ⟨rfl, rfl⟩⟩⟩)⟩⟩⟩)⟩⟩)⟩⟩⟩⟩)⟩, hI, fk.trans (fk.trans (fk.trans (fk.trans (fk.rf) hf3 rfl rfl) hj6 rfl rfl) hj23 rfl rfl) hf51 rfl rfl, ⟨by decide, by decide⟩⟩ hP hS (dk_at dkX4_accept_5 5 rfl)
                · have c48 : ¬ z42 = z45 := mt (i_eq (rb hw44 (by decide) (by decide)) hw47).mpr c48
                  refine lv_iconst (v := iI 0) hx hb (dk_at dkX4_accept_4 13 rfl) (by decide +kernel) ?_
                  exact RET 0 _ _ _ _ _ ⟨hk2 _ _ ⟨0, 0 + 1, (u_d_X4_accept_2 ⟨gI32.out, ⟨f27, ⟨f28, ⟨z34, gz34.out, (Or.inl ⟨c35, ⟨z40, gz40.out, (Or.inr ⟨c41, ⟨z42, ghw44, ⟨z45, ghw47, (Or.inr ⟨c48, ⟨rfl, rfl⟩⟩)⟩⟩⟩)⟩⟩)⟩⟩⟩⟩)⟩, hI, fk.trans (fk.trans (fk.trans (fk.rf) hf3 rfl rfl) hj6 rfl rfl) hj23 rfl rfl, ⟨by decide, by decide⟩⟩ hP hS (dk_at dkX4_accept_4 14 rfl)
            · have c35 : ¬ z34 ≤ z21 := mt (i_le (rb rz34 (by decide) (by decide)) (rb f27 (by decide) (by decide))).mpr c35
              refine lv_aload_n hx hb (dk_at dkX4_accept_2 11 rfl) rfl (lv_at hl 2 rfl) ?_
              refine lv_aload_n hx hb (dk_at dkX4_accept_2 12 rfl) rfl (lv_at hl 3 rfl) ?_
              refine lv_aload_n hx hb (dk_at dkX4_accept_2 13 rfl) rfl (lv_at hl 4 rfl) ?_
              refine lv_iload hx hb (dk_at dkX4_accept_2 14 rfl) (lv_at hl 0 rfl) ?_
              refine lv_iload_n hx hb (dk_at dkX4_accept_2 15 rfl) rfl (lv_at hl 1 rfl) ?_
              refine k_calli (As := [.ref (q ta), .ref (q 1), .int (iI z21), .int (iI z22)]) (rest := []) ⟨hx, hb, hml, hown, hts⟩ hE (kc_X4_acceptKey l dC dI cB cI cJ cZ cQ aL aS q _ ta z21 z22 hI hta (by omega) f28) (cwV 4 hts (goodVk wkq_4_46 wkq_4_47 wkq_4_48 wkq_4_23 wkq_4_49) rfl rfl rfl (by decide +kernel) ⟨Nat.le_of_ble_eq_true rfl, Nat.le_of_ble_eq_true rfl⟩) hK hDD hA0 hP hS 30 4 (wkPC) rfl rfl hl.1 (Nat.le_of_ble_eq_true rfl) (dk_at dkX4_accept_3 0 rfl) (fun z52 A53 H locs hw54 hP hS => ?_)
              have ghw54 : q_X4_acceptKey ta z21 z22 A24 z52 A53 := hw54
              obtain ⟨_, hI, hf55, hw54⟩ := hw54
              refine lv_if_ne (tgt := 95) hx hb (dk_at dkX4_accept_3 1 rfl) (by decide) (fun c56 => ?_) (fun c56 => ?_)
              · have c56 : ¬ z52 = 0 := mt (i_eq0 (rb hw54 (by decide) (by decide))).mpr c56
                refine lv_iload_n hx hb (dk_at dkX4_accept_3 4 rfl) rfl (lv_at hl 1 rfl) ?_
                refine lv_iconst (v := iI 2) hx hb (dk_at dkX4_accept_3 5 rfl) (by decide +kernel) ?_
                refine lv_aload_n hx hb (dk_at dkX4_accept_3 6 rfl) rfl (lv_at hl 2 rfl) ?_
                refine va_get (D := (dC, dI)) (ci := 4) (v := .ref (q 32)) (C := RX4) (T := TX4) (N := 3) hx hb hts hiX4 hown hK hP 30 (wkPC) rfl 1 (by decide) (hts _ (List.mem_cons_of_mem _ wkq_4_30)) (fun _ h9 => h9) rfl (dk_at dkX4_accept_3 7 rfl) ?_
                refine va_get (D := (dC, dI)) (ci := 6) (v := .ref (q (32 + 3))) (C := RX6) (T := TX6) (N := 4) hx hb hts hiX6 hown hK hP 32 (wkS isS32) rfl 2 (by decide) (hts _ (List.mem_cons_of_mem _ wkq_4_18)) (fun _ h9 => h9) rfl (dk_at dkX4_accept_3 8 rfl) ?_
                refine lv_iload hx hb (dk_at dkX4_accept_3 9 rfl) (lv_at hl 0 rfl) ?_
                refine x_iald (Wf := WK cB cI cJ cZ cQ q) hx hb hK hP (32 + 3) 1 (wkSz isS32) rfl (by omega) (by decide) (dk_at dkX4_accept_3 10 rfl) (fun z57 hz57 => ?_)
                have rz57 : (0 : Int) ≤ z57 ∧ z57 ≤ 6 := by rw [hz57]; exact irSz isS32 hI
                have gz57 := Hd.mk hz57
                refine x_addv (v := z57 + 2) hx hb (dk_at dkX4_accept_3 11 rfl) (by omega) ?_
                refine x_addv (v := z22 + z57 + 2) hx hb (dk_at dkX4_accept_3 12 rfl) (by omega) ?_
                refine x_absE (fun z58 gz58 hz58 => ?_)
                refine lv_istore_n (lv' := [(3, .int (iI z58)), (4, .int (iI z21)), (0, .ref (q 30)), (1, .ref (q ta)), (2, .ref (q 1))]) hx hb (dk_at dkX4_accept_3 13 rfl) rfl hl (by decide) rfl (fun ls hl => ?_)
                refine lv_iinc (v := iI (z21 + 1)) (lv' := [(4, .int (iI (z21 + 1))), (3, .int (iI z58)), (0, .ref (q 30)), (1, .ref (q ta)), (2, .ref (q 1))]) hx hb (dk_at dkX4_accept_3 14 rfl) hl (k := 1) rfl (i_inc (by omega)) (by decide) rfl (fun ls hl => ?_)
                refine lv_goto (tgt := 70) hx hb (dk_at dkX4_accept_3 15 rfl) (by decide) ?_
                exact ih26 _ (by omega) (z21 + 1) z58 _ _ _ _ (by omega) (by omega) (fun zq uq ⟨mm1, mm2, hq⟩ => hk2 _ _ ⟨mm1, mm2 + 1, (u_d_X4_accept_2 ⟨gI32.out, ⟨f27, ⟨f28, ⟨z34, gz34.out, (Or.inr ⟨c35, ⟨z52, A53, ghw54, (Or.inl ⟨c56, ⟨z57, gz57.out, ⟨z58, gz58.out, hq⟩⟩⟩)⟩⟩)⟩⟩⟩⟩)⟩) rfl hI (fk.trans (fk.trans (fk.rf) hj23 rfl rfl) hf55 rfl rfl) hP hS (lv_sub hl [0, 1, 2, 3, 4] rfl)
              · have c56 : z52 = 0 := (i_eq0 (rb hw54 (by decide) (by decide))).mp c56
                refine lv_iconst (v := iI 0) hx hb (dk_at dkX4_accept_3 2 rfl) (by decide +kernel) ?_
                exact RET 0 _ _ _ _ _ ⟨hk2 _ _ ⟨0, 0 + 1, (u_d_X4_accept_2 ⟨gI32.out, ⟨f27, ⟨f28, ⟨z34, gz34.out, (Or.inr ⟨c35, ⟨z52, A53, ghw54, (Or.inr ⟨c56, ⟨rfl, rfl⟩⟩)⟩⟩)⟩⟩⟩⟩)⟩, hI, fk.trans (fk.trans (fk.trans (fk.trans (fk.rf) hf3 rfl rfl) hj6 rfl rfl) hj23 rfl rfl) hf55 rfl rfl, ⟨by decide, by decide⟩⟩ hP hS (dk_at dkX4_accept_3 3 rfl)
        exact L70_25 _ 0 z5 _ _ _ _ (by omega) (by omega) (fun zq uq ⟨mm1, mm2, hq⟩ => hk1 _ _ ⟨mm1 + 1, (u_d_X4_accept_1 ⟨gI16.out, ⟨f10, ⟨f11, ⟨z19, gz19.out, (Or.inl ⟨c20, ⟨mm2, hq⟩⟩)⟩⟩⟩⟩)⟩) rfl hI (fk.rf) hP hS (lv_sub hl [0, 1, 2, 3, 4] rfl)
      · have c20 : ¬ z19 ≤ z4 := mt (i_le (rb rz19 (by decide) (by decide)) (rb f10 (by decide) (by decide))).mpr c20
        refine lv_aload_n hx hb (dk_at dkX4_accept_0 15 rfl) rfl (lv_at hl 4 rfl) ?_
        refine lv_iload_n hx hb (dk_at dkX4_accept_1 0 rfl) rfl (lv_at hl 1 rfl) ?_
        refine k_calli (As := [.int (iI z5)]) (rest := []) ⟨hx, hb, hml, hown, hts⟩ hE (kc_X7_at l dC dI cB cI cJ cZ cQ aL aS q _ z5 hI f11) (cwV 1 hts (goodVk wkq_4_38 wkq_4_39 wkq_4_40 wkq_4_41 wkq_4_42) rfl rfl rfl (by decide +kernel) ⟨Nat.le_of_ble_eq_true rfl, Nat.le_of_ble_eq_true rfl⟩) hK hDD hA0 hP hS 1 7 (wkTP) rfl rfl hl.1 (Nat.le_of_ble_eq_true rfl) (dk_at dkX4_accept_1 1 rfl) (fun z59 A60 H locs hw61 hP hS => ?_)
        obtain ⟨rfl, hw61⟩ := hw61
        have ghw61 : q_X7_at z5 A7 z59 := hw61
        have hw61 := hw61.2
        refine lv_istore (lv' := [(5, .int (iI z59)), (4, .int (iI z4)), (3, .int (iI z5)), (0, .ref (q 30)), (1, .ref (q ta)), (2, .ref (q 1))]) hx hb (dk_at dkX4_accept_1 2 rfl) hl (by decide) rfl (fun ls hl => ?_)
        refine lv_aload_n hx hb (dk_at dkX4_accept_1 3 rfl) rfl (lv_at hl 4 rfl) ?_
        refine lv_iconst (v := iI 0) hx hb (dk_at dkX4_accept_1 4 rfl) (by decide +kernel) ?_
        refine lv_iload hx hb (dk_at dkX4_accept_1 5 rfl) (lv_at hl 0 rfl) ?_
        refine k_calli (As := [.int (iI 0), .int (iI z59)]) (rest := []) ⟨hx, hb, hml, hown, hts⟩ hE (kc_X9_isThere_1_0 l dC dI cB cI cJ cZ cQ aL aS q _ ta z59 hI hta (rb hw61 (by decide) (by decide))) (cwV 2 hts (goodVk wkq_4_45 wkq_0_22 wkq_0_23 wkq_0_6 wkq_0_24) rfl rfl rfl (by decide +kernel) ⟨Nat.le_of_ble_eq_true rfl, Nat.le_of_ble_eq_true rfl⟩) hK hDD hA0 hP hS ta 9 (wkT hta) rfl rfl hl.1 (Nat.le_of_ble_eq_true rfl) (dk_at dkX4_accept_1 6 rfl) (fun z62 A63 H locs hw64 hP hS => ?_)
        obtain ⟨rfl, hw64⟩ := hw64
        have ghw64 : q_X9_isThere_1_0 ta z59 A7 z62 := hw64
        have hw64 := hw64.2
        have rz62 : 0 ≤ z62 ∧ z62 ≤ 1 := hw64.1
        have hw64 := hw64.2
        refine lv_if_ne (tgt := 46) hx hb (dk_at dkX4_accept_1 7 rfl) (by decide) (fun c65 => ?_) (fun c65 => ?_)
        · have c65 : ¬ z62 = 0 := mt (i_eq0 (rb rz62 (by decide) (by decide))).mpr c65
          have hw64b := hw64 (by omega)
          clear hw64
          refine lv_aload_n hx hb (dk_at dkX4_accept_1 10 rfl) rfl (lv_at hl 3 rfl) ?_
          refine va_get (D := (dC, dI)) (ci := 4) (v := .ref (q 32)) (C := RX4) (T := TX4) (N := 3) hx hb hts hiX4 hown hK hP 30 (wkPC) rfl 1 (by decide) (hts _ (List.mem_cons_of_mem _ wkq_4_30)) (fun _ h9 => h9) rfl (dk_at dkX4_accept_1 11 rfl) ?_
          refine va_get (D := (dC, dI)) (ci := 6) (v := .ref (q (32 + 1))) (C := RX6) (T := TX6) (N := 4) hx hb hts hiX6 hown hK hP 32 (wkS isS32) rfl 0 (by decide) (hts _ (List.mem_cons_of_mem _ wkq_4_16)) (fun _ h9 => h9) rfl (dk_at dkX4_accept_1 12 rfl) ?_
          refine lv_iload hx hb (dk_at dkX4_accept_1 13 rfl) (lv_at hl 1 rfl) ?_
          refine lv_iload hx hb (dk_at dkX4_accept_1 14 rfl) (lv_at hl 0 rfl) ?_
          refine k_iast (Wf := WK cB cI cJ cZ cQ q) hx hb hK hP hDD hS (32 + 1) 1 (wkSs isS32) rfl (by omega) (by decide) (dk_at dkX4_accept_1 15 rfl) (wsSs isS32) (fun H locs A66 hA66 hP hS => ?_)
          have hI := isSs isS32 hA66 hI (show (-2147483648 : Int) ≤ z59 ∧ z59 ≤ 2147483647 from (rb hw61 (by decide) (by decide)))
          obtain ⟨z67, gz67, hz67, ez67⟩ := i_wrapE (z5 + 1)
          refine lv_iinc (v := iI z67) (lv' := [(3, .int (iI z67)), (5, .int (iI z59)), (4, .int (iI z4)), (0, .ref (q 30)), (1, .ref (q ta)), (2, .ref (q 1))]) hx hb (dk_at dkX4_accept_2 0 rfl) hl (k := 2) rfl ((i_inc (by omega)).trans ez67) (by decide) rfl (fun ls hl => ?_)
          refine lv_iinc (v := iI (z4 + 1)) (lv' := [(4, .int (iI (z4 + 1))), (3, .int (iI z67)), (5, .int (iI z59)), (0, .ref (q 30)), (1, .ref (q ta)), (2, .ref (q 1))]) hx hb (dk_at dkX4_accept_2 1 rfl) hl (k := 2) rfl (i_inc (by omega)) (by decide) rfl (fun ls hl => ?_)
          refine lv_goto (tgt := 16) hx hb (dk_at dkX4_accept_2 2 rfl) (by decide) ?_
          exact ih9 _ (by omega) (z4 + 1) z67 _ _ _ _ (by omega) (by omega) (fun zq uq ⟨mm1, hq⟩ => hk1 _ _ ⟨mm1 + 1, (u_d_X4_accept_1 ⟨gI16.out, ⟨f10, ⟨f11, ⟨z19, gz19.out, (Or.inr ⟨c20, ⟨z59, ghw61, ⟨z62, ghw64, (Or.inl ⟨c65, ⟨A66, hA66, ⟨z67, gz67.out, hq⟩⟩⟩)⟩⟩⟩)⟩⟩⟩⟩)⟩) rfl hI (fk.da (fk.trans (fk.rf) hj6 rfl rfl) hA66 (isS.b2 (o := fun b => List.contains [33, 42, 74, 105] (b + 1)) isS32 rfl rfl rfl rfl)) hP hS (lv_sub hl [0, 1, 3, 4, 5] rfl)
        · have c65 : z62 = 0 := (i_eq0 (rb rz62 (by decide) (by decide))).mp c65
          clear hw64
          refine lv_iconst (v := iI 0) hx hb (dk_at dkX4_accept_1 8 rfl) (by decide +kernel) ?_
          exact RET 0 _ _ _ _ _ ⟨hk1 _ _ ⟨0 + 1, (u_d_X4_accept_1 ⟨gI16.out, ⟨f10, ⟨f11, ⟨z19, gz19.out, (Or.inr ⟨c20, ⟨z59, ghw61, ⟨z62, ghw64, (Or.inr ⟨c65, ⟨rfl, rfl⟩⟩)⟩⟩⟩)⟩⟩⟩⟩)⟩, hI, fk.trans (fk.trans (fk.rf) hf3 rfl rfl) hj6 rfl rfl, ⟨by decide, by decide⟩⟩ hP hS (dk_at dkX4_accept_1 9 rfl)
  exact L16_8 _ 0 0 _ _ _ _ (by omega) (by omega) (fun zq uq ⟨mm1, hq⟩ => (u_r_X4_accept ⟨A1, ghw2, ⟨mm1, hq⟩⟩)) rfl hI (fk.rf) hP hS (lv_sub hl [0, 1, 2, 3, 4] rfl)

abbrev tr_d_X9_clear_3 (ta : Nat) (u : St) (K3 : Int → St → Prop) (z19 : Int) (A21 : St) : Prop := ((IK A21) ∧ ((0 ≤ z19 ∧ z19 ≤ 2147483647) ∧ (((4 ≤ z19) ∧ (∃ A28 : St, A28 = stA A21 (ta + 19) 2 0 ∧ (∃ A29 : St, A29 = stA A28 ta 15 0 ∧ (u = A29)))) ∨ ((¬ 4 ≤ z19) ∧ (∃ A30 : St, A30 = stA A21 ((ta + 22) + 3) (z19).toNat 0 ∧ (K3 (z19 + 1) A30))))))
def d_X9_clear_3 (ta : Nat) (u : St) : Nat → Int → St → Prop
  | 0, _, _ => False
  | nn9 + 1, z19, A21 => tr_d_X9_clear_3 ta u (fun z19 A21 => d_X9_clear_3 ta u nn9 z19 A21) z19 A21
theorem u_d_X9_clear_3 {ta : Nat} {u : St} {nn9 : Nat} {z19 : Int} {A21 : St} (h : tr_d_X9_clear_3 ta u (fun z19 A21 => d_X9_clear_3 ta u nn9 z19 A21) z19 A21) : d_X9_clear_3 ta u (nn9 + 1) z19 A21 := h
abbrev tr_d_X9_clear_2 (ta : Nat) (u : St) (K2 : Int → St → Prop) (z10 : Int) (A12 : St) : Prop := ((IK A12) ∧ ((0 ≤ z10 ∧ z10 ≤ 2147483647) ∧ (((3 ≤ z10) ∧ (∃ nn9 : Nat, d_X9_clear_3 ta u nn9 0 A12)) ∨ ((¬ 3 ≤ z10) ∧ (∃ A31 : St, A31 = stA A12 (ta + 12) (z10).toNat 0 ∧ (K2 (z10 + 1) A31))))))
def d_X9_clear_2 (ta : Nat) (u : St) : Nat → Int → St → Prop
  | 0, _, _ => False
  | nn9 + 1, z10, A12 => tr_d_X9_clear_2 ta u (fun z10 A12 => d_X9_clear_2 ta u nn9 z10 A12) z10 A12
theorem u_d_X9_clear_2 {ta : Nat} {u : St} {nn9 : Nat} {z10 : Int} {A12 : St} (h : tr_d_X9_clear_2 ta u (fun z10 A12 => d_X9_clear_2 ta u nn9 z10 A12) z10 A12) : d_X9_clear_2 ta u (nn9 + 1) z10 A12 := h
abbrev tr_d_X9_clear_1 (ta : Nat) (u : St) (K1 : Int → St → Prop) (z1 : Int) (A3 : St) : Prop := ((IK A3) ∧ ((0 ≤ z1 ∧ z1 ≤ 2147483647) ∧ (((8 ≤ z1) ∧ (∃ nn9 : Nat, d_X9_clear_2 ta u nn9 0 A3)) ∨ ((¬ 8 ≤ z1) ∧ (∃ A32 : St, A32 = stA A3 (ta + 1) (z1).toNat 0 ∧ (K1 (z1 + 1) A32))))))
def d_X9_clear_1 (ta : Nat) (u : St) : Nat → Int → St → Prop
  | 0, _, _ => False
  | nn9 + 1, z1, A3 => tr_d_X9_clear_1 ta u (fun z1 A3 => d_X9_clear_1 ta u nn9 z1 A3) z1 A3
theorem u_d_X9_clear_1 {ta : Nat} {u : St} {nn9 : Nat} {z1 : Int} {A3 : St} (h : tr_d_X9_clear_1 ta u (fun z1 A3 => d_X9_clear_1 ta u nn9 z1 A3) z1 A3) : d_X9_clear_1 ta u (nn9 + 1) z1 A3 := h
abbrev tr_r_X9_clear (ta : Nat) (A : St) (u : St) : Prop := (∃ nn9 : Nat, d_X9_clear_1 ta u nn9 0 A)
def r_X9_clear (ta : Nat) (A : St) (u : St) : Prop := tr_r_X9_clear ta A u
theorem u_r_X9_clear {ta : Nat} {A : St} {u : St} (h : tr_r_X9_clear ta A u) : r_X9_clear ta A u := h
def q_X9_clear (ta : Nat) (A : St) (u : St) : Prop := r_X9_clear ta A u ∧ IK u ∧ fk [35, 44, 52, 63, 76, 83, 94, 107] [(51, 15), (70, 2), (82, 15), (101, 2)] A u ∧ (True)
def ws_kc_X9_clear : List Cond := .code yX9_clear cX9_clear 2 none :: WY
set_option maxHeartbeats 4000000 in
set_option maxRecDepth 100000 in
theorem kc_X9_clear (l : Launch) (dC : Nat → ClassId) (dI : Nat → Nat → Nat) (cB cI cJ cZ cQ : ClassId) (aL aS : Nat) (q : Nat → Nat) (A : St) (ta : Nat) (hI : IK A) (hta : isT ta) : KMv l yX9_clear ws_kc_X9_clear ({ frames := 0, cells := 0, slots := 0, locals := 0 } : Room) aL aS (dC, dI) (tyA cB cI cJ cZ cQ) (WK cB cI cJ cZ cQ q) A [.ref (q ta)] (fun u => r_X9_clear ta A u ∧ IK u ∧ fk [35, 44, 52, 63, 76, 83, 94, 107] [(51, 15), (70, 2), (82, 15), (101, 2)] A u ∧ (True)) := by
  refine k_metv (cc := cX9_clear) (maxL := 2) WK_adr (plainFor_of_name (by decide +kernel)) rfl (Nat.le_of_ble_eq_true rfl) (fun p e s m below meth c Q AS ls hx hb hml hown hts hK hDD hA0 hE RET H locs hP hS hl => ?_)
  have hown : s.vm.findClass RX9 = some m.cls := hown
  have hl : lv_has ls 2 [(0, .ref (q ta))] := hl
  have hiX9 : ∀ w ∈ u_ws RX9 TX9 16, w ∈ ws_kc_X9_clear := fun w h => List.mem_cons_of_mem _ (wy_layX9 w h)
  have hiX8 : ∀ w ∈ u_ws RX8 TX8 3, w ∈ ws_kc_X9_clear := fun w h => List.mem_cons_of_mem _ (wy_layX8 w h)
  have hiX6 : ∀ w ∈ u_ws RX6 TX6 4, w ∈ ws_kc_X9_clear := fun w h => List.mem_cons_of_mem _ (wy_layX6 w h)
  refine lv_iconst (v := iI 0) hx hb (dk_at dkX9_clear_0 0 rfl) (by decide +kernel) ?_
  refine lv_istore_n (lv' := [(1, .int (iI 0)), (0, .ref (q ta))]) hx hb (dk_at dkX9_clear_0 1 rfl) rfl hl (by decide) rfl (fun ls hl => ?_)
  have L2_4 : ∀ (n7 : Nat) (z1 : Int) (A3 : St) (H : Heap) (locs : List Loc) (ls : Array Slot), (0 ≤ z1 ∧ z1 ≤ 2147483647) → (∀ (u : St), (∃ mm1 : Nat, (d_X9_clear_1 ta u mm1 z1 A3)) → r_X9_clear ta A u) → ((9 - z1).toNat = n7) → IK A3 → fk [52, 83] [] A A3 → va_P (dC, dI) vwCl (WK cB cI cJ cZ cQ q A3) H → va_S AS s.heap H locs → lv_has ls 2 [(1, .int (iI z1)), (0, .ref (q ta))] → W p l e (headSpec ws_kc_X9_clear ({ frames := 0, cells := 0, slots := 0, locals := 0 } : Room)).room s m [.ref (q ta)].toArray below meth c H locs 0 0 Q (F0 m 2 ls []) := by
    intro n7
    induction n7 using Nat.strongRecOn with
    | ind n7 ih5 =>
      intro z1 A3 H locs ls f6 hk1 hn7 hI hj2 hP hS hl
      have gI8 : Hd (IK A3) := Hd.mk hI
      refine lv_iload_n hx hb (dk_at dkX9_clear_0 2 rfl) rfl (lv_at hl 0 rfl) ?_
      refine lv_bipush (v := iI 8) hx hb (dk_at dkX9_clear_0 3 rfl) (by decide +kernel) ?_
      refine lv_icmp_ge (tgt := 21) hx hb (dk_at dkX9_clear_0 4 rfl) (by decide) (fun c9 => ?_) (fun c9 => ?_)
      · have c9 : 8 ≤ z1 := (i_le ⟨by decide, by decide⟩ (rb f6 (by decide) (by decide))).mp c9
        refine lv_iconst (v := iI 0) hx hb (dk_at dkX9_clear_0 12 rfl) (by decide +kernel) ?_
        refine lv_istore_n (lv' := [(1, .int (iI 0)), (0, .ref (q ta))]) hx hb (dk_at dkX9_clear_0 13 rfl) rfl hl (by decide) rfl (fun ls hl => ?_)
        have L23_13 : ∀ (n16 : Nat) (z10 : Int) (A12 : St) (H : Heap) (locs : List Loc) (ls : Array Slot), (0 ≤ z10 ∧ z10 ≤ 2147483647) → (∀ (u : St), (∃ mm1 mm2 : Nat, (d_X9_clear_2 ta u mm2 z10 A12)) → r_X9_clear ta A u) → ((4 - z10).toNat = n16) → IK A12 → fk [63, 94] [] A3 A12 → va_P (dC, dI) vwCl (WK cB cI cJ cZ cQ q A12) H → va_S AS s.heap H locs → lv_has ls 2 [(1, .int (iI z10)), (0, .ref (q ta))] → W p l e (headSpec ws_kc_X9_clear ({ frames := 0, cells := 0, slots := 0, locals := 0 } : Room)).room s m [.ref (q ta)].toArray below meth c H locs 0 0 Q (F0 m 23 ls []) := by
          intro n16
          induction n16 using Nat.strongRecOn with
          | ind n16 ih14 =>
            intro z10 A12 H locs ls f15 hk2 hn16 hI hj11 hP hS hl
            have gI17 : Hd (IK A12) := Hd.mk hI
            refine lv_iload_n hx hb (dk_at dkX9_clear_0 14 rfl) rfl (lv_at hl 0 rfl) ?_
            refine lv_iconst (v := iI 3) hx hb (dk_at dkX9_clear_0 15 rfl) (by decide +kernel) ?_
            refine lv_icmp_ge (tgt := 41) hx hb (dk_at dkX9_clear_1 0 rfl) (by decide) (fun c18 => ?_) (fun c18 => ?_)
            · have c18 : 3 ≤ z10 := (i_le ⟨by decide, by decide⟩ (rb f15 (by decide) (by decide))).mp c18
              refine lv_iconst (v := iI 0) hx hb (dk_at dkX9_clear_1 8 rfl) (by decide +kernel) ?_
              refine lv_istore_n (lv' := [(1, .int (iI 0)), (0, .ref (q ta))]) hx hb (dk_at dkX9_clear_1 9 rfl) rfl hl (by decide) rfl (fun ls hl => ?_)
              have L43_22 : ∀ (n25 : Nat) (z19 : Int) (A21 : St) (H : Heap) (locs : List Loc) (ls : Array Slot), (0 ≤ z19 ∧ z19 ≤ 2147483647) → (∀ (u : St), (∃ mm1 mm2 mm3 : Nat, (d_X9_clear_3 ta u mm3 z19 A21)) → r_X9_clear ta A u) → ((5 - z19).toNat = n25) → IK A21 → fk [35, 44, 76, 107] [] A12 A21 → va_P (dC, dI) vwCl (WK cB cI cJ cZ cQ q A21) H → va_S AS s.heap H locs → lv_has ls 2 [(1, .int (iI z19)), (0, .ref (q ta))] → W p l e (headSpec ws_kc_X9_clear ({ frames := 0, cells := 0, slots := 0, locals := 0 } : Room)).room s m [.ref (q ta)].toArray below meth c H locs 0 0 Q (F0 m 43 ls []) := by
                intro n25
                induction n25 using Nat.strongRecOn with
                | ind n25 ih23 =>
                  intro z19 A21 H locs ls f24 hk3 hn25 hI hj20 hP hS hl
                  have gI26 : Hd (IK A21) := Hd.mk hI
                  refine lv_iload_n hx hb (dk_at dkX9_clear_1 10 rfl) rfl (lv_at hl 0 rfl) ?_
                  refine lv_iconst (v := iI 4) hx hb (dk_at dkX9_clear_1 11 rfl) (by decide +kernel) ?_
                  refine lv_icmp_ge (tgt := 64) hx hb (dk_at dkX9_clear_1 12 rfl) (by decide) (fun c27 => ?_) (fun c27 => ?_)
                  · have c27 : 4 ≤ z19 := (i_le ⟨by decide, by decide⟩ (rb f24 (by decide) (by decide))).mp c27
                    refine lv_aload_n hx hb (dk_at dkX9_clear_2 5 rfl) rfl (lv_at hl 1 rfl) ?_
                    refine va_get (D := (dC, dI)) (ci := 9) (v := .ref (q (ta + 19))) (C := RX9) (T := TX9) (N := 16) hx hb hts hiX9 hown hK hP ta (wkT hta) rfl 13 (by decide) (hts _ (List.mem_cons_of_mem _ wkq_5_16)) (fun _ h9 => h9) rfl (dk_at dkX9_clear_2 6 rfl) ?_
                    refine lv_iconst (v := iI 0) hx hb (dk_at dkX9_clear_2 7 rfl) (by decide +kernel) ?_
                    refine k_put (Wf := WK cB cI cJ cZ cQ q) (D := (dC, dI)) (ci := 8) (v := .int (iI 0)) (ty := .int) (C := RX8) (T := TX8) (N := 3) hx hb hts hiX8 tyX8 tyX8_ok nmX8 hown hK hP hDD hS (ta + 19) (wkE hta.e) rfl 2 (by decide) (hts _ (List.mem_cons_of_mem _ wkq_5_17)) (fun _ h9 => h9) rfl (by decide +kernel) rfl rfl (Nat.le_of_ble_eq_true rfl) (dk_at dkX9_clear_2 8 rfl) (wfE_2 hta.e (v := 0)) (fun H locs A28 hA28 hP hS => ?_)
                    have hI := isE_2 hta.e hA28 hI (show (0 : Int) ≤ 0 ∧ 0 ≤ 1600 from ⟨by decide, by decide⟩)
                    refine lv_aload_n hx hb (dk_at dkX9_clear_2 9 rfl) rfl (lv_at hl 1 rfl) ?_
                    refine lv_iconst (v := iI 0) hx hb (dk_at dkX9_clear_2 10 rfl) (by decide +kernel) ?_
                    refine k_put (Wf := WK cB cI cJ cZ cQ q) (D := (dC, dI)) (ci := 9) (v := .int (iI 0)) (ty := .int) (C := RX9) (T := TX9) (N := 16) hx hb hts hiX9 tyX9 tyX9_ok nmX9 hown hK hP hDD hS ta (wkT hta) rfl 15 (by decide) (hts _ (List.mem_cons_of_mem _ wkq_5_18)) (fun _ h9 => h9) rfl (by decide +kernel) rfl rfl (Nat.le_of_ble_eq_true rfl) (dk_at dkX9_clear_2 11 rfl) (wfT_15 hta (v := 0)) (fun H locs A29 hA29 hP hS => ?_)
                    have hI := isT_15 hta hA29 hI (show (-2147483648 : Int) ≤ 0 ∧ 0 ≤ 2147483647 from ⟨by decide, by decide⟩)
                    exact RET _ _ _ _ _ ⟨hk3 _ ⟨0, 0, 0 + 1, (u_d_X9_clear_3 ⟨gI26.out, ⟨f24, (Or.inl ⟨c27, ⟨A28, hA28, ⟨A29, hA29, rfl⟩⟩⟩)⟩⟩)⟩, hI, fk.df (fk.df (fk.trans (fk.trans (fk.trans (fk.rf) hj2 rfl rfl) hj11 rfl rfl) hj20 rfl rfl) hA28 (isE.b2 (o := fun b => fin2 [(51, 15), (70, 2), (82, 15), (101, 2)] b 2) hta.e rfl rfl)) hA29 (isT.b2 (o := fun b => fin2 [(51, 15), (70, 2), (82, 15), (101, 2)] b 15) hta rfl rfl), trivial⟩ hP hS (dk_at dkX9_clear_2 12 rfl)
                  · have c27 : ¬ 4 ≤ z19 := mt (i_le ⟨by decide, by decide⟩ (rb f24 (by decide) (by decide))).mpr c27
                    refine lv_aload_n hx hb (dk_at dkX9_clear_1 13 rfl) rfl (lv_at hl 1 rfl) ?_
                    refine va_get (D := (dC, dI)) (ci := 9) (v := .ref (q (ta + 22))) (C := RX9) (T := TX9) (N := 16) hx hb hts hiX9 hown hK hP ta (wkT hta) rfl 14 (by decide) (hts _ (List.mem_cons_of_mem _ wkq_0_9)) (fun _ h9 => h9) rfl (dk_at dkX9_clear_1 14 rfl) ?_
                    refine va_get (D := (dC, dI)) (ci := 6) (v := .ref (q ((ta + 22) + 3))) (C := RX6) (T := TX6) (N := 4) hx hb hts hiX6 hown hK hP (ta + 22) (wkS hta.s) rfl 2 (by decide) (hts _ (List.mem_cons_of_mem _ wkq_5_15)) (fun _ h9 => h9) rfl (dk_at dkX9_clear_1 15 rfl) ?_
                    refine lv_iload_n hx hb (dk_at dkX9_clear_2 0 rfl) rfl (lv_at hl 0 rfl) ?_
                    refine lv_iconst (v := iI 0) hx hb (dk_at dkX9_clear_2 1 rfl) (by decide +kernel) ?_
                    refine k_iast (Wf := WK cB cI cJ cZ cQ q) hx hb hK hP hDD hS ((ta + 22) + 3) 1 (wkSz hta.s) rfl (by omega) (by decide) (dk_at dkX9_clear_2 2 rfl) (wsSz hta.s) (fun H locs A30 hA30 hP hS => ?_)
                    have hI := isSz hta.s hA30 hI (show (0 : Int) ≤ 0 ∧ 0 ≤ 6 from ⟨by decide, by decide⟩)
                    refine lv_iinc (v := iI (z19 + 1)) (lv' := [(1, .int (iI (z19 + 1))), (0, .ref (q ta))]) hx hb (dk_at dkX9_clear_2 3 rfl) hl (k := 0) rfl (i_inc (by omega)) (by decide) rfl (fun ls hl => ?_)
                    refine lv_goto (tgt := 43) hx hb (dk_at dkX9_clear_2 4 rfl) (by decide) ?_
                    exact ih23 _ (by omega) (z19 + 1) _ _ _ _ (by omega) (fun uq ⟨mm1, mm2, mm3, hq⟩ => hk3 _ ⟨mm1, mm2, mm3 + 1, (u_d_X9_clear_3 ⟨gI26.out, ⟨f24, (Or.inr ⟨c27, ⟨A30, hA30, hq⟩⟩)⟩⟩)⟩) rfl hI (fk.da (fk.trans (fk.rf) hj20 rfl rfl) hA30 (isS.b2 (o := fun b => List.contains [35, 44, 76, 107] (b + 3)) hta.s rfl rfl rfl rfl)) hP hS (lv_sub hl [0, 1] rfl)
              exact L43_22 _ 0 _ _ _ _ (by omega) (fun uq ⟨mm1, mm2, mm3, hq⟩ => hk2 _ ⟨mm1, mm2 + 1, (u_d_X9_clear_2 ⟨gI17.out, ⟨f15, (Or.inl ⟨c18, ⟨mm3, hq⟩⟩)⟩⟩)⟩) rfl hI (fk.rf) hP hS (lv_sub hl [0, 1] rfl)
            · have c18 : ¬ 3 ≤ z10 := mt (i_le ⟨by decide, by decide⟩ (rb f15 (by decide) (by decide))).mpr c18
              refine lv_aload_n hx hb (dk_at dkX9_clear_1 1 rfl) rfl (lv_at hl 1 rfl) ?_
              refine va_get (D := (dC, dI)) (ci := 9) (v := .ref (q (ta + 12))) (C := RX9) (T := TX9) (N := 16) hx hb hts hiX9 hown hK hP ta (wkT hta) rfl 6 (by decide) (hts _ (List.mem_cons_of_mem _ wkq_5_14)) (fun _ h9 => h9) rfl (dk_at dkX9_clear_1 2 rfl) ?_
              refine lv_iload_n hx hb (dk_at dkX9_clear_1 3 rfl) rfl (lv_at hl 0 rfl) ?_
              refine lv_iconst (v := iI 0) hx hb (dk_at dkX9_clear_1 4 rfl) (by decide +kernel) ?_
              refine k_iast (Wf := WK cB cI cJ cZ cQ q) hx hb hK hP hDD hS (ta + 12) 1 (wkTw hta) rfl (by omega) (by decide) (dk_at dkX9_clear_1 5 rfl) (wsTw hta) (fun H locs A31 hA31 hP hS => ?_)
              have hI := isTw hta hA31 hI (show (-2147483648 : Int) ≤ 0 ∧ 0 ≤ 2147483647 from ⟨by decide, by decide⟩)
              refine lv_iinc (v := iI (z10 + 1)) (lv' := [(1, .int (iI (z10 + 1))), (0, .ref (q ta))]) hx hb (dk_at dkX9_clear_1 6 rfl) hl (k := 0) rfl (i_inc (by omega)) (by decide) rfl (fun ls hl => ?_)
              refine lv_goto (tgt := 23) hx hb (dk_at dkX9_clear_1 7 rfl) (by decide) ?_
              exact ih14 _ (by omega) (z10 + 1) _ _ _ _ (by omega) (fun uq ⟨mm1, mm2, hq⟩ => hk2 _ ⟨mm1, mm2 + 1, (u_d_X9_clear_2 ⟨gI17.out, ⟨f15, (Or.inr ⟨c18, ⟨A31, hA31, hq⟩⟩)⟩⟩)⟩) rfl hI (fk.da (fk.trans (fk.rf) hj11 rfl rfl) hA31 (isT.b2 (o := fun b => List.contains [63, 94] (b + 12)) hta rfl rfl)) hP hS (lv_sub hl [0, 1] rfl)
        exact L23_13 _ 0 _ _ _ _ (by omega) (fun uq ⟨mm1, mm2, hq⟩ => hk1 _ ⟨mm1 + 1, (u_d_X9_clear_1 ⟨gI8.out, ⟨f6, (Or.inl ⟨c9, ⟨mm2, hq⟩⟩)⟩⟩)⟩) rfl hI (fk.rf) hP hS (lv_sub hl [0, 1] rfl)
      · have c9 : ¬ 8 ≤ z1 := mt (i_le ⟨by decide, by decide⟩ (rb f6 (by decide) (by decide))).mpr c9
        refine lv_aload_n hx hb (dk_at dkX9_clear_0 5 rfl) rfl (lv_at hl 1 rfl) ?_
        refine va_get (D := (dC, dI)) (ci := 9) (v := .ref (q (ta + 1))) (C := RX9) (T := TX9) (N := 16) hx hb hts hiX9 hown hK hP ta (wkT hta) rfl 0 (by decide) (hts _ (List.mem_cons_of_mem _ wkq_0_8)) (fun _ h9 => h9) rfl (dk_at dkX9_clear_0 6 rfl) ?_
        refine lv_iload_n hx hb (dk_at dkX9_clear_0 7 rfl) rfl (lv_at hl 0 rfl) ?_
        refine lv_iconst (v := iI 0) hx hb (dk_at dkX9_clear_0 8 rfl) (by decide +kernel) ?_
        refine k_iast (Wf := WK cB cI cJ cZ cQ q) hx hb hK hP hDD hS (ta + 1) 1 (wkTc hta) rfl (by omega) (by decide) (dk_at dkX9_clear_0 9 rfl) (wsTc hta) (fun H locs A32 hA32 hP hS => ?_)
        have hI := isTc hta hA32 hI ⟨Int.le_refl 0, Int.le_trans (by decide) (limK_ge _)⟩
        refine lv_iinc (v := iI (z1 + 1)) (lv' := [(1, .int (iI (z1 + 1))), (0, .ref (q ta))]) hx hb (dk_at dkX9_clear_0 10 rfl) hl (k := 0) rfl (i_inc (by omega)) (by decide) rfl (fun ls hl => ?_)
        refine lv_goto (tgt := 2) hx hb (dk_at dkX9_clear_0 11 rfl) (by decide) ?_
        exact ih5 _ (by omega) (z1 + 1) _ _ _ _ (by omega) (fun uq ⟨mm1, hq⟩ => hk1 _ ⟨mm1 + 1, (u_d_X9_clear_1 ⟨gI8.out, ⟨f6, (Or.inr ⟨c9, ⟨A32, hA32, hq⟩⟩)⟩⟩)⟩) rfl hI (fk.da (fk.trans (fk.rf) hj2 rfl rfl) hA32 (isT.b2 (o := fun b => List.contains [52, 83] (b + 1)) hta rfl rfl)) hP hS (lv_sub hl [0, 1] rfl)
  exact L2_4 _ 0 _ _ _ _ (by omega) (fun uq ⟨mm1, hq⟩ => (u_r_X9_clear ⟨mm1, hq⟩)) rfl hI (fk.rf) hP hS (lv_sub hl [0, 1] rfl)

abbrev tr_r_X5_bad (x1 : Int) (A : St) (z : Int) (u : St) : Prop := (∃ A1 : St, A1 = stA A 3 2 x1 ∧ (∃ A4 : St, A4 = stA A1 3 3 (A 5 3) ∧ (z = 0 ∧ u = A4)))
def r_X5_bad (x1 : Int) (A : St) (z : Int) (u : St) : Prop := tr_r_X5_bad x1 A z u
theorem u_r_X5_bad {x1 : Int} {A : St} {z : Int} {u : St} (h : tr_r_X5_bad x1 A z u) : r_X5_bad x1 A z u := h
def q_X5_bad (x1 : Int) (A : St) (z : Int) (u : St) : Prop := r_X5_bad x1 A z u ∧ IK u ∧ fk [] [(3, 2), (3, 3)] A u ∧ ((0 ≤ z ∧ z ≤ 1) ∧ (z = 0))
def ws_kc_X5_bad : List Cond := .code yX5_bad cX5_bad 2 (some .boolean) :: WY
set_option maxHeartbeats 4000000 in
set_option maxRecDepth 100000 in
theorem kc_X5_bad (l : Launch) (dC : Nat → ClassId) (dI : Nat → Nat → Nat) (cB cI cJ cZ cQ : ClassId) (aL aS : Nat) (q : Nat → Nat) (A : St) (x1 : Int) (hI : IK A) (hx1 : (0 : Int) ≤ x1 ∧ x1 ≤ 5) : KMi l yX5_bad ws_kc_X5_bad ({ frames := 0, cells := 0, slots := 0, locals := 0 } : Room) aL aS (dC, dI) (tyA cB cI cJ cZ cQ) (WK cB cI cJ cZ cQ q) A [.ref (q 3), .int (iI x1)] (fun z u => r_X5_bad x1 A z u ∧ IK u ∧ fk [] [(3, 2), (3, 3)] A u ∧ ((0 ≤ z ∧ z ≤ 1) ∧ (z = 0))) := by
  refine k_metz (cc := cX5_bad) (maxL := 2) WK_adr (plainFor_of_name (by decide +kernel)) rfl (Nat.le_of_ble_eq_true rfl) (fun z u h => h.2.2.2.1) (fun p e s m below meth c Q AS ls hx hb hml hown hts hK hDD hA0 hE RET H locs hP hS hl => ?_)
  have hown : s.vm.findClass RX5 = some m.cls := hown
  have hl : lv_has ls 2 [(0, .ref (q 3)), (1, .int (iI x1))] := hl
  have hiX5 : ∀ w ∈ u_ws RX5 TX5 5, w ∈ ws_kc_X5_bad := fun w h => List.mem_cons_of_mem _ (wy_layX5 w h)
  have hiX3 : ∀ w ∈ u_ws RX3 TX3 7, w ∈ ws_kc_X5_bad := fun w h => List.mem_cons_of_mem _ (wy_layX3 w h)
  refine lv_aload_n hx hb (dk_at dkX5_bad_0 0 rfl) rfl (lv_at hl 0 rfl) ?_
  refine lv_iload_n hx hb (dk_at dkX5_bad_0 1 rfl) rfl (lv_at hl 1 rfl) ?_
  refine k_put (Wf := WK cB cI cJ cZ cQ q) (D := (dC, dI)) (ci := 5) (v := .int (iI x1)) (ty := .int) (C := RX5) (T := TX5) (N := 5) hx hb hts hiX5 tyX5 tyX5_ok nmX5 hown hK hP hDD hS 3 (wkRD) rfl 2 (by decide) (hts _ (List.mem_cons_of_mem _ wkq_5_7)) (fun _ h9 => h9) rfl (by decide +kernel) rfl rfl (Nat.le_of_ble_eq_true rfl) (dk_at dkX5_bad_0 2 rfl) (wfRD_2 (v := x1)) (fun H locs A1 hA1 hP hS => ?_)
  have hI := isRD_2 hA1 hI (show (0 : Int) ≤ x1 ∧ x1 ≤ 5 from hx1)
  refine lv_aload_n hx hb (dk_at dkX5_bad_0 3 rfl) rfl (lv_at hl 0 rfl) ?_
  refine lv_aload_n hx hb (dk_at dkX5_bad_0 4 rfl) rfl (lv_at hl 0 rfl) ?_
  refine va_get (D := (dC, dI)) (ci := 5) (v := .ref (q 5)) (C := RX5) (T := TX5) (N := 5) hx hb hts hiX5 hown hK hP 3 (wkRD) rfl 0 (by decide) (hts _ (List.mem_cons_of_mem _ wkq_5_6)) (fun _ h9 => h9) rfl (dk_at dkX5_bad_0 5 rfl) ?_
  have e2 : A1 5 3 = (A 5 3) := (rd_ne hA1 (by decide) 3)
  have r3 : (0 : Int) ≤ (A 5 3) ∧ (A 5 3) ≤ 1600 := by rw [← e2]; exact irLX_3 hI
  refine va_get (D := (dC, dI)) (ci := 3) (v := .int (iI (A1 5 3))) (C := RX3) (T := TX3) (N := 7) hx hb hts hiX3 hown hK hP 5 (wkLX) rfl 3 (by decide) (hts _ (List.mem_cons_of_mem _ wkq_5_41)) (fun _ h9 => h9) rfl (dk_at dkX5_bad_0 6 rfl) ?_
  refine tp_i (y := iI (A 5 3)) (congrArg iI e2) ?_
  refine k_put (Wf := WK cB cI cJ cZ cQ q) (D := (dC, dI)) (ci := 5) (v := .int (iI (A 5 3))) (ty := .int) (C := RX5) (T := TX5) (N := 5) hx hb hts hiX5 tyX5 tyX5_ok nmX5 hown hK hP hDD hS 3 (wkRD) rfl 3 (by decide) (hts _ (List.mem_cons_of_mem _ wkq_5_8)) (fun _ h9 => h9) rfl (by decide +kernel) rfl rfl (Nat.le_of_ble_eq_true rfl) (dk_at dkX5_bad_0 7 rfl) (wfRD_3 (v := (A 5 3))) (fun H locs A4 hA4 hP hS => ?_)
  have hI := isRD_3 hA4 hI (show (-1 : Int) ≤ (A 5 3) ∧ (A 5 3) ≤ 1600 from (rb r3 (by decide) (by decide)))
  refine lv_iconst (v := iI 0) hx hb (dk_at dkX5_bad_0 8 rfl) (by decide +kernel) ?_
  exact RET 0 _ _ _ _ _ ⟨(u_r_X5_bad ⟨A1, hA1, ⟨A4, hA4, ⟨rfl, rfl⟩⟩⟩), hI, fk.df (fk.df (fk.rf) hA1 rfl) hA4 rfl, by omega⟩ hP hS (dk_at dkX5_bad_0 9 rfl)

abbrev tr_r_X5_none (x1 : Int) (A : St) (z : Int) (u : St) : Prop := (∃ z1 : Int, ∃ A2 : St, q_X5_bad x1 A z1 A2 ∧ (z = (-1) ∧ u = A2))
def r_X5_none (x1 : Int) (A : St) (z : Int) (u : St) : Prop := tr_r_X5_none x1 A z u
theorem u_r_X5_none {x1 : Int} {A : St} {z : Int} {u : St} (h : tr_r_X5_none x1 A z u) : r_X5_none x1 A z u := h
def q_X5_none (x1 : Int) (A : St) (z : Int) (u : St) : Prop := r_X5_none x1 A z u ∧ IK u ∧ fk [] [(3, 2), (3, 3)] A u ∧ (z = -1)
def ws_kc_X5_none : List Cond := .code yX5_none cX5_none 2 (some .int) :: WY
set_option maxHeartbeats 4000000 in
set_option maxRecDepth 100000 in
theorem kc_X5_none (l : Launch) (dC : Nat → ClassId) (dI : Nat → Nat → Nat) (cB cI cJ cZ cQ : ClassId) (aL aS : Nat) (q : Nat → Nat) (A : St) (x1 : Int) (hI : IK A) (hx1 : (0 : Int) ≤ x1 ∧ x1 ≤ 5) : KMi l yX5_none ws_kc_X5_none ({ frames := 1, cells := 0, slots := 0, locals := 21 } : Room) aL aS (dC, dI) (tyA cB cI cJ cZ cQ) (WK cB cI cJ cZ cQ q) A [.ref (q 3), .int (iI x1)] (fun z u => r_X5_none x1 A z u ∧ IK u ∧ fk [] [(3, 2), (3, 3)] A u ∧ (z = -1)) := by
  refine k_meti (cc := cX5_none) (maxL := 2) WK_adr (plainFor_of_name (by decide +kernel)) rfl (Nat.le_of_ble_eq_true rfl) (fun p e s m below meth c Q AS ls hx hb hml hown hts hK hDD hA0 hE RET H locs hP hS hl => ?_)
  have hown : s.vm.findClass RX5 = some m.cls := hown
  have hl : lv_has ls 2 [(0, .ref (q 3)), (1, .int (iI x1))] := hl
  refine lv_aload_n hx hb (dk_at dkX5_none_0 0 rfl) rfl (lv_at hl 0 rfl) ?_
  refine lv_iload_n hx hb (dk_at dkX5_none_0 1 rfl) rfl (lv_at hl 1 rfl) ?_
  refine k_calli (As := [.int (iI x1)]) (rest := []) ⟨hx, hb, hml, hown, hts⟩ hE (kc_X5_bad l dC dI cB cI cJ cZ cQ aL aS q _ x1 hI hx1) (cwV 1 hts (goodVk wkq_5_37 wkq_5_38 wkq_5_39 wkq_5_28 wkq_5_40) rfl rfl rfl (by decide +kernel) ⟨Nat.le_of_ble_eq_true rfl, Nat.le_of_ble_eq_true rfl⟩) hK hDD hA0 hP hS 3 5 (wkRD) rfl rfl hl.1 (Nat.le_of_ble_eq_true rfl) (dk_at dkX5_none_0 2 rfl) (fun z1 A2 H locs hw3 hP hS => ?_)
  have ghw3 : q_X5_bad x1 A z1 A2 := hw3
  obtain ⟨_, hI, hf4, hw3⟩ := hw3
  have rz1 : 0 ≤ z1 ∧ z1 ≤ 1 := hw3.1
  have hw3 := hw3.2
  refine lv_pop hx hb (dk_at dkX5_none_0 3 rfl) rfl ?_
  refine lv_iconst (v := iI (-1)) hx hb (dk_at dkX5_none_0 4 rfl) (by decide +kernel) ?_
  exact RET (-1) _ _ _ _ _ ⟨(u_r_X5_none ⟨z1, A2, ghw3, ⟨rfl, rfl⟩⟩), hI, fk.trans (fk.rf) hf4 rfl rfl, by omega⟩ hP hS (dk_at dkX5_none_0 5 rfl)

abbrev tr_d_X5_statementWord_2 (K1 : Int → Prop) (z1 : Int) (z : Int) (u : St) : Prop := (K1 (z1 + 1))
def d_X5_statementWord_2 (K1 : Int → Prop) (z1 : Int) (z : Int) (u : St) : Prop := tr_d_X5_statementWord_2 K1 z1 z u
theorem u_d_X5_statementWord_2 {K1 : Int → Prop} {z1 : Int} {z : Int} {u : St} (h : tr_d_X5_statementWord_2 K1 z1 z u) : d_X5_statementWord_2 K1 z1 z u := h
abbrev tr_d_X5_statementWord_1 (ta : Nat) (A : St) (z : Int) (u : St) (K1 : Int → Prop) (z1 : Int) : Prop := ((0 ≤ z1 ∧ z1 ≤ 2147483647) ∧ (((12 ≤ z1) ∧ (∃ z8 : Int, ∃ A9 : St, q_X5_none 1 A z8 A9 ∧ (z = z8 ∧ u = A9))) ∨ ((¬ 12 ≤ z1) ∧ (((¬ (A 5 2) = 1) ∧ (d_X5_statementWord_2 K1 z1 z u)) ∨ (((A 5 2) = 1) ∧ (∃ z16 : Int, z16 = A 4 (z1).toNat ∧ (((¬ (A 5 4) = z16) ∧ (d_X5_statementWord_2 K1 z1 z u)) ∨ (((A 5 4) = z16) ∧ (∃ z18 : Int, z18 = kindK (z1).toNat ∧ (((z18 = (-1)) ∧ (∃ A20 : St, q_X3_pass A A20 ∧ (z = z1 ∧ u = A20))) ∨ ((¬ z18 = (-1)) ∧ (∃ z24 : Int, z24 = A (ta + 1) (z18).toNat ∧ (∃ z25 : Int, z25 = limK (z18).toNat ∧ (((z24 < z25) ∧ (∃ A27 : St, q_X3_pass A A27 ∧ (z = z1 ∧ u = A27))) ∨ ((¬ z24 < z25) ∧ (∃ z31 : Int, ∃ A32 : St, q_X5_none 5 A z31 A32 ∧ (z = z31 ∧ u = A32)))))))))))))))))
def d_X5_statementWord_1 (ta : Nat) (A : St) (z : Int) (u : St) : Nat → Int → Prop
  | 0, _ => False
  | nn9 + 1, z1 => tr_d_X5_statementWord_1 ta A z u (fun z1 => d_X5_statementWord_1 ta A z u nn9 z1) z1
theorem u_d_X5_statementWord_1 {ta : Nat} {A : St} {z : Int} {u : St} {nn9 : Nat} {z1 : Int} (h : tr_d_X5_statementWord_1 ta A z u (fun z1 => d_X5_statementWord_1 ta A z u nn9 z1) z1) : d_X5_statementWord_1 ta A z u (nn9 + 1) z1 := h
abbrev tr_r_X5_statementWord (ta : Nat) (A : St) (z : Int) (u : St) : Prop := (∃ nn9 : Nat, d_X5_statementWord_1 ta A z u nn9 0)
def r_X5_statementWord (ta : Nat) (A : St) (z : Int) (u : St) : Prop := tr_r_X5_statementWord ta A z u
theorem u_r_X5_statementWord {ta : Nat} {A : St} {z : Int} {u : St} (h : tr_r_X5_statementWord ta A z u) : r_X5_statementWord ta A z u := h
def q_X5_statementWord (ta : Nat) (A : St) (z : Int) (u : St) : Prop := r_X5_statementWord ta A z u ∧ IK u ∧ fk [] [(3, 2), (3, 3), (5, 6)] A u ∧ ((-1 ≤ z ∧ z ≤ 11) ∧ (z = 6 → u (ta + 1) (5 : Int).toNat < 6))
def ws_kc_X5_statementWord : List Cond := .code yX5_statementWord cX5_statementWord 4 (some .int) :: WY
set_option maxHeartbeats 4000000 in
set_option maxRecDepth 100000 in
theorem kc_X5_statementWord (l : Launch) (dC : Nat → ClassId) (dI : Nat → Nat → Nat) (cB cI cJ cZ cQ : ClassId) (aL aS : Nat) (q : Nat → Nat) (A : St) (ta : Nat) (hI : IK A) (hta : isT ta) : KMi l yX5_statementWord ws_kc_X5_statementWord ({ frames := 2, cells := 0, slots := 0, locals := 42 } : Room) aL aS (dC, dI) (tyA cB cI cJ cZ cQ) (WK cB cI cJ cZ cQ q) A [.ref (q 3), .ref (q ta)] (fun z u => r_X5_statementWord ta A z u ∧ IK u ∧ fk [] [(3, 2), (3, 3), (5, 6)] A u ∧ ((-1 ≤ z ∧ z ≤ 11) ∧ (z = 6 → u (ta + 1) (5 : Int).toNat < 6))) := by
  refine k_meti (cc := cX5_statementWord) (maxL := 4) WK_adr (plainFor_of_name (by decide +kernel)) rfl (Nat.le_of_ble_eq_true rfl) (fun p e s m below meth c Q AS ls hx hb hml hown hts hK hDD hA0 hE RET H locs hP hS hl => ?_)
  have hown : s.vm.findClass RX5 = some m.cls := hown
  have hl : lv_has ls 4 [(0, .ref (q 3)), (1, .ref (q ta))] := hl
  have hiX5 : ∀ w ∈ u_ws RX5 TX5 5, w ∈ ws_kc_X5_statementWord := fun w h => List.mem_cons_of_mem _ (wy_layX5 w h)
  have hiX3 : ∀ w ∈ u_ws RX3 TX3 7, w ∈ ws_kc_X5_statementWord := fun w h => List.mem_cons_of_mem _ (wy_layX3 w h)
  have hiX9 : ∀ w ∈ u_ws RX9 TX9 16, w ∈ ws_kc_X5_statementWord := fun w h => List.mem_cons_of_mem _ (wy_layX9 w h)
  refine lv_iconst (v := iI 0) hx hb (dk_at dkX5_statementWord_0 0 rfl) (by decide +kernel) ?_
  refine lv_istore_n (lv' := [(2, .int (iI 0)), (0, .ref (q 3)), (1, .ref (q ta))]) hx hb (dk_at dkX5_statementWord_0 1 rfl) rfl hl (by decide) rfl (fun ls hl => ?_)
  have L2_3 : ∀ (n6 : Nat) (z1 : Int) (H : Heap) (locs : List Loc) (ls : Array Slot), (0 ≤ z1 ∧ z1 ≤ 2147483647) → (∀ (z : Int) (u : St), (∃ mm1 : Nat, (d_X5_statementWord_1 ta A z u mm1 z1)) → r_X5_statementWord ta A z u) → ((13 - z1).toNat = n6) → va_P (dC, dI) vwCl (WK cB cI cJ cZ cQ q A) H → va_S AS s.heap H locs → lv_has ls 4 [(2, .int (iI z1)), (0, .ref (q 3)), (1, .ref (q ta))] → W p l e (headSpec ws_kc_X5_statementWord ({ frames := 2, cells := 0, slots := 0, locals := 42 } : Room)).room s m [.ref (q 3), .ref (q ta)].toArray below meth c H locs 0 0 Q (F0 m 2 ls []) := by
    intro n6
    induction n6 using Nat.strongRecOn with
    | ind n6 ih4 =>
      intro z1 H locs ls f5 hk1 hn6 hP hS hl
      refine lv_iload_n hx hb (dk_at dkX5_statementWord_0 2 rfl) rfl (lv_at hl 0 rfl) ?_
      refine va_getsN hx hb hE.2.2.2.1 hS hown (va_Nw.use rfl hE.1) (fun _ h => h) (dk_at dkX5_statementWord_0 3 rfl) ?_
      refine va_tlen (v := iI 12) hx hb hE.2.2.2.2.1 hS (by decide +kernel) (dk_at dkX5_statementWord_0 4 rfl) ?_
      refine lv_icmp_ge (tgt := 83) hx hb (dk_at dkX5_statementWord_0 5 rfl) (by decide) (fun c7 => ?_) (fun c7 => ?_)
      · have c7 : 12 ≤ z1 := (i_le ⟨by decide, by decide⟩ (rb f5 (by decide) (by decide))).mp c7
        refine lv_aload_n hx hb (dk_at dkX5_statementWord_2 13 rfl) rfl (lv_at hl 1 rfl) ?_
        refine lv_iconst (v := iI 1) hx hb (dk_at dkX5_statementWord_2 14 rfl) (by decide +kernel) ?_
        refine k_calli (As := [.int (iI 1)]) (rest := []) ⟨hx, hb, hml, hown, hts⟩ hE (kc_X5_none l dC dI cB cI cJ cZ cQ aL aS q _ 1 hI ⟨by decide, by decide⟩) (cwV 1 hts (goodVk wkq_5_33 wkq_5_34 wkq_5_35 wkq_5_28 wkq_5_36) rfl rfl rfl (by decide +kernel) ⟨Nat.le_of_ble_eq_true rfl, Nat.le_of_ble_eq_true rfl⟩) hK hDD hA0 hP hS 3 5 (wkRD) rfl rfl hl.1 (Nat.le_of_ble_eq_true rfl) (dk_at dkX5_statementWord_2 15 rfl) (fun z8 A9 H locs hw10 hP hS => ?_)
        have ghw10 : q_X5_none 1 A z8 A9 := hw10
        obtain ⟨_, hI, hf11, hw10⟩ := hw10
        exact RET z8 _ _ _ _ _ ⟨hk1 _ _ ⟨0 + 1, (u_d_X5_statementWord_1 ⟨f5, (Or.inl ⟨c7, ⟨z8, A9, ghw10, ⟨rfl, rfl⟩⟩⟩)⟩)⟩, hI, fk.trans (fk.rf) hf11 rfl rfl, by omega⟩ hP hS (dk_at dkX5_statementWord_3 0 rfl)
      · have c7 : ¬ 12 ≤ z1 := mt (i_le ⟨by decide, by decide⟩ (rb f5 (by decide) (by decide))).mpr c7
        refine lv_aload_n hx hb (dk_at dkX5_statementWord_0 6 rfl) rfl (lv_at hl 1 rfl) ?_
        refine va_get (D := (dC, dI)) (ci := 5) (v := .ref (q 5)) (C := RX5) (T := TX5) (N := 5) hx hb hts hiX5 hown hK hP 3 (wkRD) rfl 0 (by decide) (hts _ (List.mem_cons_of_mem _ wkq_5_6)) (fun _ h9 => h9) rfl (dk_at dkX5_statementWord_0 7 rfl) ?_
        have r12 : (0 : Int) ≤ (A 5 2) ∧ (A 5 2) ≤ 4 := irLX_2 hI
        refine va_get (D := (dC, dI)) (ci := 3) (v := .int (iI (A 5 2))) (C := RX3) (T := TX3) (N := 7) hx hb hts hiX3 hown hK hP 5 (wkLX) rfl 2 (by decide) (hts _ (List.mem_cons_of_mem _ wkq_5_9)) (fun _ h9 => h9) rfl (dk_at dkX5_statementWord_0 8 rfl) ?_
        refine lv_iconst (v := iI 1) hx hb (dk_at dkX5_statementWord_0 9 rfl) (by decide +kernel) ?_
        have J77_14 : ∀ (H : Heap) (locs : List Loc) (ls : Array Slot), (∀ (z : Int) (u : St), (∃ mm1 : Nat, (d_X5_statementWord_2 (fun z1' => d_X5_statementWord_1 ta A z u mm1 z1') z1 z u)) → r_X5_statementWord ta A z u) → va_P (dC, dI) vwCl (WK cB cI cJ cZ cQ q A) H → va_S AS s.heap H locs → lv_has ls 4 [(2, .int (iI z1)), (0, .ref (q 3)), (1, .ref (q ta))] → W p l e (headSpec ws_kc_X5_statementWord ({ frames := 2, cells := 0, slots := 0, locals := 42 } : Room)).room s m [.ref (q 3), .ref (q ta)].toArray below meth c H locs 0 0 Q (F0 m 77 ls []) := by
          intro H locs ls hk2 hP hS hl
          refine lv_iinc (v := iI (z1 + 1)) (lv' := [(2, .int (iI (z1 + 1))), (0, .ref (q 3)), (1, .ref (q ta))]) hx hb (dk_at dkX5_statementWord_2 11 rfl) hl (k := 0) rfl (i_inc (by omega)) (by decide) rfl (fun ls hl => ?_)
          refine lv_goto (tgt := 2) hx hb (dk_at dkX5_statementWord_2 12 rfl) (by decide) ?_
          exact ih4 _ (by omega) (z1 + 1) _ _ _ (by omega) (fun zq uq ⟨mm1, hq⟩ => hk2 _ _ ⟨mm1, (u_d_X5_statementWord_2 hq)⟩) rfl hP hS (lv_sub hl [0, 1, 2] rfl)
        refine lv_icmp_ne (tgt := 77) hx hb (dk_at dkX5_statementWord_0 10 rfl) (by decide) (fun c13 => ?_) (fun c13 => ?_)
        · have c13 : ¬ (A 5 2) = 1 := mt (i_eq (rb r12 (by decide) (by decide)) ⟨by decide, by decide⟩).mpr c13
          exact J77_14 _ _ _ (fun zq uq ⟨mm1, hq⟩ => hk1 _ _ ⟨mm1 + 1, (u_d_X5_statementWord_1 ⟨f5, (Or.inr ⟨c7, (Or.inl ⟨c13, hq⟩)⟩)⟩)⟩) hP hS (lv_sub hl [0, 1, 2] rfl)
        · have c13 : (A 5 2) = 1 := (i_eq (rb r12 (by decide) (by decide)) ⟨by decide, by decide⟩).mp c13
          refine lv_aload_n hx hb (dk_at dkX5_statementWord_0 11 rfl) rfl (lv_at hl 1 rfl) ?_
          refine va_get (D := (dC, dI)) (ci := 5) (v := .ref (q 5)) (C := RX5) (T := TX5) (N := 5) hx hb hts hiX5 hown hK hP 3 (wkRD) rfl 0 (by decide) (hts _ (List.mem_cons_of_mem _ wkq_5_6)) (fun _ h9 => h9) rfl (dk_at dkX5_statementWord_0 12 rfl) ?_
          have r15 : (-2147483648 : Int) ≤ (A 5 4) ∧ (A 5 4) ≤ 2147483647 := irLX_4 hI
          refine va_get (D := (dC, dI)) (ci := 3) (v := .int (iI (A 5 4))) (C := RX3) (T := TX3) (N := 7) hx hb hts hiX3 hown hK hP 5 (wkLX) rfl 4 (by decide) (hts _ (List.mem_cons_of_mem _ wkq_5_30)) (fun _ h9 => h9) rfl (dk_at dkX5_statementWord_0 13 rfl) ?_
          refine lv_aload_n hx hb (dk_at dkX5_statementWord_0 14 rfl) rfl (lv_at hl 1 rfl) ?_
          refine va_get (D := (dC, dI)) (ci := 5) (v := .ref (q 4)) (C := RX5) (T := TX5) (N := 5) hx hb hts hiX5 hown hK hP 3 (wkRD) rfl 1 (by decide) (hts _ (List.mem_cons_of_mem _ wkq_5_31)) (fun _ h9 => h9) rfl (dk_at dkX5_statementWord_0 15 rfl) ?_
          refine lv_iload_n hx hb (dk_at dkX5_statementWord_1 0 rfl) rfl (lv_at hl 0 rfl) ?_
          refine x_iald (Wf := WK cB cI cJ cZ cQ q) hx hb hK hP 4 1 (wkRDo) rfl (by omega) (by decide) (dk_at dkX5_statementWord_1 1 rfl) (fun z16 hz16 => ?_)
          have rz16 : (-2147483648 : Int) ≤ z16 ∧ z16 ≤ 2147483647 := by rw [hz16]; exact irRDo hI
          have gz16 := Hd.mk hz16
          refine lv_icmp_ne (tgt := 77) hx hb (dk_at dkX5_statementWord_1 2 rfl) (by decide) (fun c17 => ?_) (fun c17 => ?_)
          · have c17 : ¬ (A 5 4) = z16 := mt (i_eq r15 rz16).mpr c17
            exact J77_14 _ _ _ (fun zq uq ⟨mm1, hq⟩ => hk1 _ _ ⟨mm1 + 1, (u_d_X5_statementWord_1 ⟨f5, (Or.inr ⟨c7, (Or.inr ⟨c13, ⟨z16, gz16.out, (Or.inl ⟨c17, hq⟩)⟩⟩)⟩)⟩)⟩) hP hS (lv_sub hl [0, 1, 2] rfl)
          · have c17 : (A 5 4) = z16 := (i_eq r15 rz16).mp c17
            refine va_getsN hx hb hE.2.2.2.1 hS hown (va_Nw.use rfl hE.1) (fun _ h => h) (dk_at dkX5_statementWord_1 3 rfl) ?_
            refine lv_iload_n hx hb (dk_at dkX5_statementWord_1 4 rfl) rfl (lv_at hl 0 rfl) ?_
            refine k_tald hx hb hE.2.2.2.2.1 hS (by omega) (by decide) (dk_at dkX5_statementWord_1 5 rfl) (fun z18 hz18 => ?_)
            have rz18 : (-1 : Int) ≤ z18 ∧ z18 ≤ 7 := by rw [hz18]; exact kindK_r _
            refine lv_istore_n (lv' := [(3, .int (iI z18)), (2, .int (iI z1)), (0, .ref (q 3)), (1, .ref (q ta))]) hx hb (dk_at dkX5_statementWord_1 6 rfl) rfl hl (by decide) rfl (fun ls hl => ?_)
            refine lv_iload_n hx hb (dk_at dkX5_statementWord_1 7 rfl) rfl (lv_at hl 0 rfl) ?_
            refine lv_iconst (v := iI (-1)) hx hb (dk_at dkX5_statementWord_1 8 rfl) (by decide +kernel) ?_
            refine lv_icmp_eq (tgt := 68) hx hb (dk_at dkX5_statementWord_1 9 rfl) (by decide) (fun c19 => ?_) (fun c19 => ?_)
            · have c19 : z18 = (-1) := (i_eq (rb rz18 (by decide) (by decide)) ⟨by decide, by decide⟩).mp c19
              refine lv_aload_n hx hb (dk_at dkX5_statementWord_2 6 rfl) rfl (lv_at hl 2 rfl) ?_
              refine va_get (D := (dC, dI)) (ci := 5) (v := .ref (q 5)) (C := RX5) (T := TX5) (N := 5) hx hb hts hiX5 hown hK hP 3 (wkRD) rfl 0 (by decide) (hts _ (List.mem_cons_of_mem _ wkq_5_6)) (fun _ h9 => h9) rfl (dk_at dkX5_statementWord_2 7 rfl) ?_
              refine k_callv (As := []) (rest := []) ⟨hx, hb, hml, hown, hts⟩ hE (kc_X3_pass l dC dI cB cI cJ cZ cQ aL aS q _ hI) (cwV 0 hts (goodVk wkq_5_42 wkq_5_43 wkq_5_44 wkq_4_10 wkq_3_58) rfl rfl rfl (by decide +kernel) ⟨Nat.le_of_ble_eq_true rfl, Nat.le_of_ble_eq_true rfl⟩) hK hDD hA0 hP hS 5 3 (wkLX) rfl rfl hl.1 (Nat.le_of_ble_eq_true rfl) (dk_at dkX5_statementWord_2 8 rfl) (fun A20 H locs hw21 hP hS => ?_)
              have ghw21 : q_X3_pass A A20 := hw21
              obtain ⟨_, hI, hf22, hw21⟩ := hw21
              clear hw21
              refine lv_iload_n hx hb (dk_at dkX5_statementWord_2 9 rfl) rfl (lv_at hl 1 rfl) ?_
              have a23 : ∀ k, A20 (ta + 1) k = A (ta + 1) k := fun k => hf22 (ta + 1) k (isT.b2 (o := fun b => List.contains [] (b + 1)) hta rfl rfl) (isT.b2 (o := fun b => fin2 [(5, 6)] (b + 1) k) hta rfl rfl)
              have h6 : z1 = 6 → A20 (ta + 1) (5 : Int).toNat < 6 := fun h => absurd (hz18.symm.trans (show z18 = -1 by omega)) (by rw [h]; decide)
              exact RET z1 _ _ _ _ _ ⟨hk1 _ _ ⟨0 + 1, (u_d_X5_statementWord_1 ⟨f5, (Or.inr ⟨c7, (Or.inr ⟨c13, ⟨z16, gz16.out, (Or.inr ⟨c17, ⟨z18, hz18, (Or.inl ⟨c19, ⟨A20, ghw21, ⟨rfl, rfl⟩⟩⟩)⟩⟩)⟩⟩)⟩)⟩)⟩, hI, fk.trans (fk.rf) hf22 rfl rfl, ⟨by omega, h6⟩⟩ hP hS (dk_at dkX5_statementWord_2 10 rfl)
            · have c19 : ¬ z18 = (-1) := mt (i_eq (rb rz18 (by decide) (by decide)) ⟨by decide, by decide⟩).mpr c19
              refine lv_aload_n hx hb (dk_at dkX5_statementWord_1 10 rfl) rfl (lv_at hl 3 rfl) ?_
              refine va_get (D := (dC, dI)) (ci := 9) (v := .ref (q (ta + 1))) (C := RX9) (T := TX9) (N := 16) hx hb hts hiX9 hown hK hP ta (wkT hta) rfl 0 (by decide) (hts _ (List.mem_cons_of_mem _ wkq_5_32)) (fun _ h9 => h9) rfl (dk_at dkX5_statementWord_1 11 rfl) ?_
              refine lv_iload_n hx hb (dk_at dkX5_statementWord_1 12 rfl) rfl (lv_at hl 0 rfl) ?_
              refine x_iald (Wf := WK cB cI cJ cZ cQ q) hx hb hK hP (ta + 1) 1 (wkTc hta) rfl (by omega) (by decide) (dk_at dkX5_statementWord_1 13 rfl) (fun z24 hz24 => ?_)
              have rz24 : (0 : Int) ≤ z24 ∧ z24 ≤ 10 := by rw [hz24]; exact irTc hta hI
              have gz24 := Hd.mk hz24
              refine va_getsN hx hb hE.2.2.2.2.2.1 hS hown (va_Nw.use rfl hE.2.1) (fun _ h => h) (dk_at dkX5_statementWord_1 14 rfl) ?_
              refine lv_iload_n hx hb (dk_at dkX5_statementWord_1 15 rfl) rfl (lv_at hl 0 rfl) ?_
              refine k_tald hx hb hE.2.2.2.2.2.2 hS (by omega) (by decide) (dk_at dkX5_statementWord_2 0 rfl) (fun z25 hz25 => ?_)
              have rz25 : (3 : Int) ≤ z25 ∧ z25 ≤ 10 := by rw [hz25]; exact ⟨limK_ge _, limK_le _⟩
              refine lv_icmp_lt (tgt := 68) hx hb (dk_at dkX5_statementWord_2 1 rfl) (by decide) (fun c26 => ?_) (fun c26 => ?_)
              · have c26 : z24 < z25 := (i_lt (rb rz24 (by decide) (by decide)) (rb rz25 (by decide) (by decide))).mp c26
                refine lv_aload_n hx hb (dk_at dkX5_statementWord_2 6 rfl) rfl (lv_at hl 2 rfl) ?_
                refine va_get (D := (dC, dI)) (ci := 5) (v := .ref (q 5)) (C := RX5) (T := TX5) (N := 5) hx hb hts hiX5 hown hK hP 3 (wkRD) rfl 0 (by decide) (hts _ (List.mem_cons_of_mem _ wkq_5_6)) (fun _ h9 => h9) rfl (dk_at dkX5_statementWord_2 7 rfl) ?_
                refine k_callv (As := []) (rest := []) ⟨hx, hb, hml, hown, hts⟩ hE (kc_X3_pass l dC dI cB cI cJ cZ cQ aL aS q _ hI) (cwV 0 hts (goodVk wkq_5_42 wkq_5_43 wkq_5_44 wkq_4_10 wkq_3_58) rfl rfl rfl (by decide +kernel) ⟨Nat.le_of_ble_eq_true rfl, Nat.le_of_ble_eq_true rfl⟩) hK hDD hA0 hP hS 5 3 (wkLX) rfl rfl hl.1 (Nat.le_of_ble_eq_true rfl) (dk_at dkX5_statementWord_2 8 rfl) (fun A27 H locs hw28 hP hS => ?_)
                have ghw28 : q_X3_pass A A27 := hw28
                obtain ⟨_, hI, hf29, hw28⟩ := hw28
                clear hw28
                refine lv_iload_n hx hb (dk_at dkX5_statementWord_2 9 rfl) rfl (lv_at hl 1 rfl) ?_
                have a30 : ∀ k, A27 (ta + 1) k = A (ta + 1) k := fun k => hf29 (ta + 1) k (isT.b2 (o := fun b => List.contains [] (b + 1)) hta rfl rfl) (isT.b2 (o := fun b => fin2 [(5, 6)] (b + 1) k) hta rfl rfl)
                have h6 : z1 = 6 → A27 (ta + 1) (5 : Int).toNat < 6 := by
                  intro h
                  have e5 : z18 = 5 := by rw [hz18, h]; decide
                  have g1 := hz24
                  have g2 := hz25
                  rw [e5] at g1 g2
                  have g3 : z25 = 6 := g2
                  rw [a30]
                  omega
                exact RET z1 _ _ _ _ _ ⟨hk1 _ _ ⟨0 + 1, (u_d_X5_statementWord_1 ⟨f5, (Or.inr ⟨c7, (Or.inr ⟨c13, ⟨z16, gz16.out, (Or.inr ⟨c17, ⟨z18, hz18, (Or.inr ⟨c19, ⟨z24, gz24.out, ⟨z25, hz25, (Or.inl ⟨c26, ⟨A27, ghw28, ⟨rfl, rfl⟩⟩⟩)⟩⟩⟩)⟩⟩)⟩⟩)⟩)⟩)⟩, hI, fk.trans (fk.rf) hf29 rfl rfl, ⟨by omega, h6⟩⟩ hP hS (dk_at dkX5_statementWord_2 10 rfl)
              · have c26 : ¬ z24 < z25 := mt (i_lt (rb rz24 (by decide) (by decide)) (rb rz25 (by decide) (by decide))).mpr c26
                refine lv_aload_n hx hb (dk_at dkX5_statementWord_2 2 rfl) rfl (lv_at hl 2 rfl) ?_
                refine lv_iconst (v := iI 5) hx hb (dk_at dkX5_statementWord_2 3 rfl) (by decide +kernel) ?_
                refine k_calli (As := [.int (iI 5)]) (rest := []) ⟨hx, hb, hml, hown, hts⟩ hE (kc_X5_none l dC dI cB cI cJ cZ cQ aL aS q _ 5 hI ⟨by decide, by decide⟩) (cwV 1 hts (goodVk wkq_5_33 wkq_5_34 wkq_5_35 wkq_5_28 wkq_5_36) rfl rfl rfl (by decide +kernel) ⟨Nat.le_of_ble_eq_true rfl, Nat.le_of_ble_eq_true rfl⟩) hK hDD hA0 hP hS 3 5 (wkRD) rfl rfl hl.1 (Nat.le_of_ble_eq_true rfl) (dk_at dkX5_statementWord_2 4 rfl) (fun z31 A32 H locs hw33 hP hS => ?_)
                have ghw33 : q_X5_none 5 A z31 A32 := hw33
                obtain ⟨_, hI, hf34, hw33⟩ := hw33
                exact RET z31 _ _ _ _ _ ⟨hk1 _ _ ⟨0 + 1, (u_d_X5_statementWord_1 ⟨f5, (Or.inr ⟨c7, (Or.inr ⟨c13, ⟨z16, gz16.out, (Or.inr ⟨c17, ⟨z18, hz18, (Or.inr ⟨c19, ⟨z24, gz24.out, ⟨z25, hz25, (Or.inr ⟨c26, ⟨z31, A32, ghw33, ⟨rfl, rfl⟩⟩⟩)⟩⟩⟩)⟩⟩)⟩⟩)⟩)⟩)⟩, hI, fk.trans (fk.rf) hf34 rfl rfl, by omega⟩ hP hS (dk_at dkX5_statementWord_2 5 rfl)
  exact L2_3 _ 0 _ _ _ (by omega) (fun zq uq ⟨mm1, hq⟩ => (u_r_X5_statementWord ⟨mm1, hq⟩)) rfl hP hS (lv_sub hl [0, 1, 2] rfl)

abbrev tr_r_X5_sign (x1 : Int) (A : St) (z : Int) (u : St) : Prop := (∃ A1 : St, q_X3_look A A1 ∧ (∃ z4 : Int, q_X3_isSign x1 A1 z4 ∧ (((¬ z4 = 0) ∧ (∃ A8 : St, q_X3_pass A1 A8 ∧ (z = 1 ∧ u = A8))) ∨ ((z4 = 0) ∧ (∃ z11 : Int, ∃ A12 : St, q_X5_bad 1 A1 z11 A12 ∧ (z = z11 ∧ u = A12))))))
def r_X5_sign (x1 : Int) (A : St) (z : Int) (u : St) : Prop := tr_r_X5_sign x1 A z u
theorem u_r_X5_sign {x1 : Int} {A : St} {z : Int} {u : St} (h : tr_r_X5_sign x1 A z u) : r_X5_sign x1 A z u := h
def q_X5_sign (x1 : Int) (A : St) (z : Int) (u : St) : Prop := r_X5_sign x1 A z u ∧ IK u ∧ fk [] [(3, 2), (3, 3), (5, 1), (5, 2), (5, 3), (5, 4), (5, 5), (5, 6)] A u ∧ (0 ≤ z ∧ z ≤ 1)
def ws_kc_X5_sign : List Cond := .code yX5_sign cX5_sign 2 (some .boolean) :: WY
set_option maxHeartbeats 4000000 in
set_option maxRecDepth 100000 in
theorem kc_X5_sign (l : Launch) (dC : Nat → ClassId) (dI : Nat → Nat → Nat) (cB cI cJ cZ cQ : ClassId) (aL aS : Nat) (q : Nat → Nat) (A : St) (x1 : Int) (hI : IK A) (hx1 : (0 : Int) ≤ x1 ∧ x1 ≤ 65535) : KMi l yX5_sign ws_kc_X5_sign ({ frames := 2, cells := 0, slots := 0, locals := 45 } : Room) aL aS (dC, dI) (tyA cB cI cJ cZ cQ) (WK cB cI cJ cZ cQ q) A [.ref (q 3), .int (iI x1)] (fun z u => r_X5_sign x1 A z u ∧ IK u ∧ fk [] [(3, 2), (3, 3), (5, 1), (5, 2), (5, 3), (5, 4), (5, 5), (5, 6)] A u ∧ (0 ≤ z ∧ z ≤ 1)) := by
  refine k_metz (cc := cX5_sign) (maxL := 2) WK_adr (plainFor_of_name (by decide +kernel)) rfl (Nat.le_of_ble_eq_true rfl) (fun z u h => h.2.2.2) (fun p e s m below meth c Q AS ls hx hb hml hown hts hK hDD hA0 hE RET H locs hP hS hl => ?_)
  have hown : s.vm.findClass RX5 = some m.cls := hown
  have hl : lv_has ls 2 [(0, .ref (q 3)), (1, .int (iI x1))] := hl
  have hiX5 : ∀ w ∈ u_ws RX5 TX5 5, w ∈ ws_kc_X5_sign := fun w h => List.mem_cons_of_mem _ (wy_layX5 w h)
  refine lv_aload_n hx hb (dk_at dkX5_sign_0 0 rfl) rfl (lv_at hl 0 rfl) ?_
  refine va_get (D := (dC, dI)) (ci := 5) (v := .ref (q 5)) (C := RX5) (T := TX5) (N := 5) hx hb hts hiX5 hown hK hP 3 (wkRD) rfl 0 (by decide) (hts _ (List.mem_cons_of_mem _ wkq_5_6)) (fun _ h9 => h9) rfl (dk_at dkX5_sign_0 1 rfl) ?_
  refine k_callv (As := []) (rest := []) ⟨hx, hb, hml, hown, hts⟩ hE (kc_X3_look l dC dI cB cI cJ cZ cQ aL aS q _ hI) (cwV 0 hts (goodVk wkq_5_22 wkq_5_23 wkq_5_24 wkq_4_10 wkq_4_2) rfl rfl rfl (by decide +kernel) ⟨Nat.le_of_ble_eq_true rfl, Nat.le_of_ble_eq_true rfl⟩) hK hDD hA0 hP hS 5 3 (wkLX) rfl rfl hl.1 (Nat.le_of_ble_eq_true rfl) (dk_at dkX5_sign_0 2 rfl) (fun A1 H locs hw2 hP hS => ?_)
  have ghw2 : q_X3_look A A1 := hw2
  obtain ⟨_, hI, hf3, hw2⟩ := hw2
  clear hw2
  refine lv_aload_n hx hb (dk_at dkX5_sign_0 3 rfl) rfl (lv_at hl 0 rfl) ?_
  refine va_get (D := (dC, dI)) (ci := 5) (v := .ref (q 5)) (C := RX5) (T := TX5) (N := 5) hx hb hts hiX5 hown hK hP 3 (wkRD) rfl 0 (by decide) (hts _ (List.mem_cons_of_mem _ wkq_5_6)) (fun _ h9 => h9) rfl (dk_at dkX5_sign_0 4 rfl) ?_
  refine lv_iload_n hx hb (dk_at dkX5_sign_0 5 rfl) rfl (lv_at hl 1 rfl) ?_
  refine k_calli (As := [.int (iI x1)]) (rest := []) ⟨hx, hb, hml, hown, hts⟩ hE (kc_X3_isSign l dC dI cB cI cJ cZ cQ aL aS q _ x1 hI hx1) (cwV 1 hts (goodVk wkq_7_46 wkq_7_47 wkq_7_48 wkq_4_10 wkq_3_59) rfl rfl rfl (by decide +kernel) ⟨Nat.le_of_ble_eq_true rfl, Nat.le_of_ble_eq_true rfl⟩) hK hDD hA0 hP hS 5 3 (wkLX) rfl rfl hl.1 (Nat.le_of_ble_eq_true rfl) (dk_at dkX5_sign_0 6 rfl) (fun z4 A5 H locs hw6 hP hS => ?_)
  obtain ⟨rfl, hw6⟩ := hw6
  have ghw6 : q_X3_isSign x1 A1 z4 := hw6
  have hw6 := hw6.2
  refine lv_if_ne (tgt := 24) hx hb (dk_at dkX5_sign_0 7 rfl) (by decide) (fun c7 => ?_) (fun c7 => ?_)
  · have c7 : ¬ z4 = 0 := mt (i_eq0 (rb hw6 (by decide) (by decide))).mpr c7
    refine lv_aload_n hx hb (dk_at dkX5_sign_0 12 rfl) rfl (lv_at hl 0 rfl) ?_
    refine va_get (D := (dC, dI)) (ci := 5) (v := .ref (q 5)) (C := RX5) (T := TX5) (N := 5) hx hb hts hiX5 hown hK hP 3 (wkRD) rfl 0 (by decide) (hts _ (List.mem_cons_of_mem _ wkq_5_6)) (fun _ h9 => h9) rfl (dk_at dkX5_sign_0 13 rfl) ?_
    refine k_callv (As := []) (rest := []) ⟨hx, hb, hml, hown, hts⟩ hE (kc_X3_pass l dC dI cB cI cJ cZ cQ aL aS q _ hI) (cwV 0 hts (goodVk wkq_5_42 wkq_5_43 wkq_5_44 wkq_4_10 wkq_3_58) rfl rfl rfl (by decide +kernel) ⟨Nat.le_of_ble_eq_true rfl, Nat.le_of_ble_eq_true rfl⟩) hK hDD hA0 hP hS 5 3 (wkLX) rfl rfl hl.1 (Nat.le_of_ble_eq_true rfl) (dk_at dkX5_sign_0 14 rfl) (fun A8 H locs hw9 hP hS => ?_)
    have ghw9 : q_X3_pass A1 A8 := hw9
    obtain ⟨_, hI, hf10, hw9⟩ := hw9
    clear hw9
    refine lv_iconst (v := iI 1) hx hb (dk_at dkX5_sign_0 15 rfl) (by decide +kernel) ?_
    exact RET 1 _ _ _ _ _ ⟨(u_r_X5_sign ⟨A1, ghw2, ⟨z4, ghw6, (Or.inl ⟨c7, ⟨A8, ghw9, ⟨rfl, rfl⟩⟩⟩)⟩⟩), hI, fk.trans (fk.trans (fk.rf) hf3 rfl rfl) hf10 rfl rfl, ⟨by decide, by decide⟩⟩ hP hS (dk_at dkX5_sign_1 0 rfl)
  · have c7 : z4 = 0 := (i_eq0 (rb hw6 (by decide) (by decide))).mp c7
    refine lv_aload_n hx hb (dk_at dkX5_sign_0 8 rfl) rfl (lv_at hl 0 rfl) ?_
    refine lv_iconst (v := iI 1) hx hb (dk_at dkX5_sign_0 9 rfl) (by decide +kernel) ?_
    refine k_calli (As := [.int (iI 1)]) (rest := []) ⟨hx, hb, hml, hown, hts⟩ hE (kc_X5_bad l dC dI cB cI cJ cZ cQ aL aS q _ 1 hI ⟨by decide, by decide⟩) (cwV 1 hts (goodVk wkq_5_37 wkq_5_38 wkq_5_39 wkq_5_28 wkq_5_40) rfl rfl rfl (by decide +kernel) ⟨Nat.le_of_ble_eq_true rfl, Nat.le_of_ble_eq_true rfl⟩) hK hDD hA0 hP hS 3 5 (wkRD) rfl rfl hl.1 (Nat.le_of_ble_eq_true rfl) (dk_at dkX5_sign_0 10 rfl) (fun z11 A12 H locs hw13 hP hS => ?_)
    have ghw13 : q_X5_bad 1 A1 z11 A12 := hw13
    obtain ⟨_, hI, hf14, hw13⟩ := hw13
    have rz11 : 0 ≤ z11 ∧ z11 ≤ 1 := hw13.1
    have hw13 := hw13.2
    exact RET z11 _ _ _ _ _ ⟨(u_r_X5_sign ⟨A1, ghw2, ⟨z4, ghw6, (Or.inr ⟨c7, ⟨z11, A12, ghw13, ⟨rfl, rfl⟩⟩⟩)⟩⟩), hI, fk.trans (fk.trans (fk.rf) hf3 rfl rfl) hf14 rfl rfl, rz11⟩ hP hS (dk_at dkX5_sign_0 11 rfl)
theorem dkX5_readShut_0 : dkq cX5_readShut [(0, .aload_n 0, 1), (1, .aload_n 1, 1), (2, .iconst 1, 1), (3, .invokevirtual 128, 3), (6, .istore_n 2, 1), (7, .iload_n 2, 1), (8, .iconst (-1), 1), (9, .if_icmp .eq 12, 3), (12, .aload_n 0, 1), (13, .bipush 14, 2), (15, .invokevirtual 144, 3), (18, .ifCond .ne 5, 3), (21, .iconst 0, 1), (22, .ireturn, 1), (23, .aload_n 0, 1), (24, .aload_n 1, 1)] = true := by decide +kernel
theorem dkX5_readShut_1 : dkq cX5_readShut [(25, .iconst 2, 1), (26, .invokevirtual 128, 3), (29, .istore_n 3, 1), (30, .iload_n 3, 1), (31, .iconst (-1), 1), (32, .if_icmp .ne 5, 3), (35, .iconst 0, 1), (36, .ireturn, 1), (37, .aload_n 1, 1), (38, .getfield 190, 3), (41, .iload_n 3, 1), (42, .iload_n 2, 1), (43, .invokevirtual 199, 3), (46, .ifCond .ne 11, 3), (49, .aload_n 0, 1), (50, .iconst 3, 1)] = true := by decide +kernel
theorem dkX5_readShut_2 : dkq cX5_readShut [(51, .invokevirtual 132, 3), (54, .ifCond .eq 7, 3), (57, .iconst 1, 1), (58, .goto 4, 3), (61, .iconst 0, 1), (62, .ireturn, 1)] = true := by decide +kernel
theorem dkX5_readLost_0 : dkq cX5_readLost [(0, .aload_n 0, 1), (1, .aload_n 1, 1), (2, .iconst 1, 1), (3, .invokevirtual 128, 3), (6, .istore_n 2, 1), (7, .iload_n 2, 1), (8, .iconst (-1), 1), (9, .if_icmp .ne 5, 3), (12, .iconst 0, 1), (13, .ireturn, 1), (14, .aload_n 1, 1), (15, .getfield 202, 3), (18, .iload_n 2, 1), (19, .ishr, 1), (20, .iconst 1, 1), (21, .iand, 1)] = true := by decide +kernel
theorem dkX5_readLost_1 : dkq cX5_readLost [(22, .ifCond .eq 9, 3), (25, .aload_n 0, 1), (26, .iconst 3, 1), (27, .invokevirtual 132, 3), (30, .ireturn, 1), (31, .aload_n 1, 1), (32, .dup, 1), (33, .getfield 202, 3), (36, .iconst 1, 1), (37, .iload_n 2, 1), (38, .ishl, 1), (39, .ior, 1), (40, .putfield 202, 3), (43, .iconst 1, 1), (44, .ireturn, 1)] = true := by decide +kernel
theorem dkX5_isNameAhead_0 : dkq cX5_isNameAhead [(0, .aload_n 0, 1), (1, .getfield 30, 3), (4, .invokevirtual 54, 3), (7, .aload_n 0, 1), (8, .getfield 30, 3), (11, .getfield 57, 3), (14, .iconst 1, 1), (15, .if_icmp .eq 5, 3), (18, .iconst 0, 1), (19, .ireturn, 1), (20, .iconst 0, 1), (21, .istore_n 1, 1), (22, .iload_n 1, 1), (23, .bipush 26, 2), (25, .if_icmp .ge 27, 3), (28, .aload_n 0, 1)] = true := by decide +kernel
theorem dkX5_isNameAhead_1 : dkq cX5_isNameAhead [(29, .getfield 30, 3), (32, .getfield 112, 3), (35, .aload_n 0, 1), (36, .getfield 9, 3), (39, .iload_n 1, 1), (40, .iaload, 1), (41, .if_icmp .ne 5, 3), (44, .iconst 0, 1), (45, .ireturn, 1), (46, .iinc 1 1, 3), (49, .goto (-27), 3), (52, .iconst 1, 1), (53, .ireturn, 1)] = true := by decide +kernel
theorem dkX5_asked_0 : dkq cX5_asked [(0, .aload_n 0, 1), (1, .invokevirtual 244, 3), (4, .ifCond .ne 9, 3), (7, .aload_n 0, 1), (8, .iconst 1, 1), (9, .invokevirtual 121, 3), (12, .ireturn, 1), (13, .aload_n 0, 1), (14, .getfield 30, 3), (17, .invokevirtual 125, 3), (20, .aload_n 1, 1), (21, .iload_n 2, 1), (22, .aload_n 0, 1), (23, .getfield 30, 3), (26, .getfield 112, 3), (29, .invokevirtual 247, 3)] = true := by decide +kernel
theorem dkX5_asked_1 : dkq cX5_asked [(32, .istore_n 3, 1), (33, .iload_n 3, 1), (34, .iconst (-1), 1), (35, .if_icmp .ne 11, 3), (38, .aload_n 0, 1), (39, .iconst 3, 1), (40, .invokevirtual 121, 3), (43, .goto 4, 3), (46, .iload_n 3, 1), (47, .ireturn, 1)] = true := by decide +kernel
theorem dkX5_ownWord_0 : dkq cX5_ownWord [(0, .aload_n 0, 1), (1, .iload_n 1, 1), (2, .invokevirtual 208, 3), (5, .ifCond .ne 11, 3), (8, .aload_n 0, 1), (9, .iconst 1, 1), (10, .invokevirtual 132, 3), (13, .ifCond .eq 7, 3), (16, .iconst 1, 1), (17, .goto 4, 3), (20, .iconst 0, 1), (21, .ireturn, 1)] = true := by decide +kernel
theorem dkX5_passesWord_0 : dkq cX5_passesWord [(0, .aload_n 0, 1), (1, .getfield 30, 3), (4, .invokevirtual 54, 3), (7, .aload_n 0, 1), (8, .getfield 30, 3), (11, .getfield 57, 3), (14, .iconst 1, 1), (15, .if_icmp .ne 29, 3), (18, .iload_n 1, 1), (19, .ifCond .lt 25, 3), (22, .iload_n 1, 1), (23, .bipush 26, 2), (25, .if_icmp .ge 19, 3), (28, .aload_n 0, 1), (29, .getfield 30, 3), (32, .getfield 112, 3)] = true := by decide +kernel
theorem dkX5_passesWord_1 : dkq cX5_passesWord [(35, .aload_n 0, 1), (36, .getfield 9, 3), (39, .iload_n 1, 1), (40, .iaload, 1), (41, .if_icmp .eq 5, 3), (44, .iconst 0, 1), (45, .ireturn, 1), (46, .aload_n 0, 1), (47, .getfield 30, 3), (50, .invokevirtual 125, 3), (53, .iconst 1, 1), (54, .ireturn, 1)] = true := by decide +kernel
theorem dkX9_find_0 : dkq cX9_find [(0, .iload_n 1, 1), (1, .ifCond .lt 8, 3), (4, .iload_n 1, 1), (5, .iconst 5, 1), (6, .if_icmp .lt 5, 3), (9, .iconst (-1), 1), (10, .ireturn, 1), (11, .iconst 0, 1), (12, .istore_n 3, 1), (13, .iload_n 3, 1), (14, .aload_n 0, 1), (15, .getfield 9, 3), (18, .iload_n 1, 1), (19, .iaload, 1), (20, .if_icmp .ge 29, 3), (23, .iload_n 3, 1)] = true := by decide +kernel
theorem dkX9_find_1 : dkq cX9_find [(24, .bipush 10, 2), (26, .if_icmp .ge 23, 3), (29, .aload_n 0, 1), (30, .getfield 17, 3), (33, .iload_n 1, 1), (34, .aaload, 1), (35, .iload_n 3, 1), (36, .iaload, 1), (37, .iload_n 2, 1), (38, .if_icmp .ne 5, 3), (41, .iload_n 3, 1), (42, .ireturn, 1), (43, .iinc 3 1, 3), (46, .goto (-33), 3), (49, .iconst (-1), 1), (50, .ireturn, 1)] = true := by decide +kernel
