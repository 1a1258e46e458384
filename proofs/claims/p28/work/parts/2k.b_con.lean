abbrev tr_r_X5_readBar (ta : Nat) (A : St) (z : Int) (u : St) : Prop := (∃ z1 : Int, ∃ A2 : St, q_X5_asked_2_1 ta A z1 A2 ∧ (((¬ z1 = (-1)) ∧ (∃ z6 : Int, q_X9_isBox ta z1 A2 z6 ∧ (((z6 = 0) ∧ (∃ A12 : St, A12 = stA A2 3 4 0 ∧ (∃ z13 : Int, ∃ A14 : St, q_X5_ownWord 15 A12 z13 A14 ∧ (((z13 = 0) ∧ (z = 0 ∧ u = A14)) ∨ ((¬ z13 = 0) ∧ (∃ z20 : Int, ∃ A21 : St, q_SS_test (rq_test ((ta + 19)) 8) A14 z20 A21 ∧ (((z20 = 0) ∧ (z = 0 ∧ u = A21)) ∨ ((¬ z20 = 0) ∧ (∃ z27 : Int, ∃ A28 : St, q_X9_addBar ta z1 ((A (ta + 19) 2)) ((A21 (ta + 19) 2)) A21 z27 A28 ∧ (((z27 = 0) ∧ (z = 0 ∧ u = A28)) ∨ ((¬ z27 = 0) ∧ (z = 1 ∧ u = A28)))))))))))) ∨ ((¬ z6 = 0) ∧ (∃ z32 : Int, ∃ A33 : St, q_X5_bad 3 A2 z32 A33 ∧ (z = z32 ∧ u = A33)))))) ∨ ((z1 = (-1)) ∧ (z = 0 ∧ u = A2))))
def r_X5_readBar (ta : Nat) (A : St) (z : Int) (u : St) : Prop := tr_r_X5_readBar ta A z u
theorem u_r_X5_readBar {ta : Nat} {A : St} {z : Int} {u : St} (h : tr_r_X5_readBar ta A z u) : r_X5_readBar ta A z u := h
def q_X5_readBar (ta : Nat) (A : St) (z : Int) (u : St) : Prop := r_X5_readBar ta A z u ∧ IK u ∧ fk [52, 67, 68, 69, 71, 83, 98, 99, 100, 102] [(3, 2), (3, 3), (3, 4), (5, 1), (5, 2), (5, 3), (5, 4), (5, 5), (5, 6), (70, 2), (101, 2)] A u ∧ (0 ≤ z ∧ z ≤ 1)
def ws_kc_X5_readBar : List Cond := .code yX5_readBar cX5_readBar 4 (some .boolean) :: WY
set_option maxHeartbeats 4000000 in
set_option maxRecDepth 100000 in
theorem kc_X5_readBar (l : Launch) (dC : Nat → ClassId) (dI : Nat → Nat → Nat) (cB cI cJ cZ cQ : ClassId) (aL aS : Nat) (q : Nat → Nat) (A : St) (ta : Nat) (hI : IK A) (hta : isT ta) : KMi l yX5_readBar ws_kc_X5_readBar ({ frames := 103, cells := 0, slots := 0, locals := 3902 } : Room) aL aS (dC, dI) (tyA cB cI cJ cZ cQ) (WK cB cI cJ cZ cQ q) A [.ref (q 3), .ref (q ta)] (fun z u => r_X5_readBar ta A z u ∧ IK u ∧ fk [52, 67, 68, 69, 71, 83, 98, 99, 100, 102] [(3, 2), (3, 3), (3, 4), (5, 1), (5, 2), (5, 3), (5, 4), (5, 5), (5, 6), (70, 2), (101, 2)] A u ∧ (0 ≤ z ∧ z ≤ 1)) := by
  refine k_metz (cc := cX5_readBar) (maxL := 4) WK_adr (plainFor_of_name (by decide +kernel)) rfl (Nat.le_of_ble_eq_true rfl) (fun z u h => h.2.2.2) (fun p e s m below meth c Q AS ls hx hb hml hown hts hK hDD hA0 hE RET H locs hP hS hl => ?_)
  have hown : s.vm.findClass RX5 = some m.cls := hown
  have hl : lv_has ls 4 [(0, .ref (q 3)), (1, .ref (q ta))] := hl
  have hiX9 : ∀ w ∈ u_ws RX9 TX9 16, w ∈ ws_kc_X5_readBar := fun w h => List.mem_cons_of_mem _ (wy_layX9 w h)
  have hiX8 : ∀ w ∈ u_ws RX8 TX8 3, w ∈ ws_kc_X5_readBar := fun w h => List.mem_cons_of_mem _ (wy_layX8 w h)
  have hiX5 : ∀ w ∈ u_ws RX5 TX5 5, w ∈ ws_kc_X5_readBar := fun w h => List.mem_cons_of_mem _ (wy_layX5 w h)
  refine lv_aload_n hx hb (dk_at dkX5_readBar_0 0 rfl) rfl (lv_at hl 0 rfl) ?_
  refine lv_aload_n hx hb (dk_at dkX5_readBar_0 1 rfl) rfl (lv_at hl 1 rfl) ?_
  refine lv_iconst (v := iI 1) hx hb (dk_at dkX5_readBar_0 2 rfl) (by decide +kernel) ?_
  refine k_calli (As := [.ref (q ta), .int (iI 1)]) (rest := []) ⟨hx, hb, hml, hown, hts⟩ hE (kc_X5_asked_2_1 l dC dI cB cI cJ cZ cQ aL aS q _ ta hI hta) (cwV 2 hts (goodVk wkq_6_6 wkq_6_7 wkq_6_8 wkq_5_28 wkq_6_9) rfl rfl rfl (by decide +kernel) ⟨Nat.le_of_ble_eq_true rfl, Nat.le_of_ble_eq_true rfl⟩) hK hDD hA0 hP hS 3 5 (wkRD) rfl rfl hl.1 (Nat.le_of_ble_eq_true rfl) (dk_at dkX5_readBar_0 3 rfl) (fun z1 A2 H locs hw3 hP hS => ?_)
  have ghw3 : q_X5_asked_2_1 ta A z1 A2 := hw3
  obtain ⟨_, hI, hf4, hw3⟩ := hw3
  refine lv_istore_n (lv' := [(2, .int (iI z1)), (0, .ref (q 3)), (1, .ref (q ta))]) hx hb (dk_at dkX5_readBar_0 4 rfl) rfl hl (by decide) rfl (fun ls hl => ?_)
  refine lv_iload_n hx hb (dk_at dkX5_readBar_0 5 rfl) rfl (lv_at hl 0 rfl) ?_
  refine lv_iconst (v := iI (-1)) hx hb (dk_at dkX5_readBar_0 6 rfl) (by decide +kernel) ?_
  refine lv_icmp_ne (tgt := 14) hx hb (dk_at dkX5_readBar_0 7 rfl) (by decide) (fun c5 => ?_) (fun c5 => ?_)
  · have c5 : ¬ z1 = (-1) := mt (i_eq (rb hw3 (by decide) (by decide)) ⟨by decide, by decide⟩).mpr c5
    refine lv_aload_n hx hb (dk_at dkX5_readBar_0 10 rfl) rfl (lv_at hl 2 rfl) ?_
    refine lv_iload_n hx hb (dk_at dkX5_readBar_0 11 rfl) rfl (lv_at hl 0 rfl) ?_
    refine k_calli (As := [.int (iI z1)]) (rest := []) ⟨hx, hb, hml, hown, hts⟩ hE (kc_X9_isBox l dC dI cB cI cJ cZ cQ aL aS q _ ta z1 hI hta (rb hw3 (by decide) (by decide))) (cwV 1 hts (goodVk wkq_6_39 wkq_1_6 wkq_1_7 wkq_0_6 wkq_1_8) rfl rfl rfl (by decide +kernel) ⟨Nat.le_of_ble_eq_true rfl, Nat.le_of_ble_eq_true rfl⟩) hK hDD hA0 hP hS ta 9 (wkT hta) rfl rfl hl.1 (Nat.le_of_ble_eq_true rfl) (dk_at dkX5_readBar_0 12 rfl) (fun z6 A7 H locs hw8 hP hS => ?_)
    obtain ⟨rfl, hw8⟩ := hw8
    have ghw8 : q_X9_isBox ta z1 A2 z6 := hw8
    have hw8 := hw8.2
    have rz6 : 0 ≤ z6 ∧ z6 ≤ 1 := hw8.1
    have hw8 := hw8.2
    refine lv_if_eq (tgt := 28) hx hb (dk_at dkX5_readBar_0 13 rfl) (by decide) (fun c9 => ?_) (fun c9 => ?_)
    · have c9 : z6 = 0 := (i_eq0 (rb rz6 (by decide) (by decide))).mp c9
      clear hw8
      refine lv_aload_n hx hb (dk_at dkX5_readBar_1 2 rfl) rfl (lv_at hl 2 rfl) ?_
      refine va_get (D := (dC, dI)) (ci := 9) (v := .ref (q (ta + 19))) (C := RX9) (T := TX9) (N := 16) hx hb hts hiX9 hown hK hP ta (wkT hta) rfl 13 (by decide) (hts _ (List.mem_cons_of_mem _ wkq_7_23)) (fun _ h9 => h9) rfl (dk_at dkX5_readBar_1 3 rfl) ?_
      have e10 : A2 (ta + 19) 2 = (A (ta + 19) 2) := (hf4 (ta + 19) 2 (isE.b2 (o := fun b => List.contains [] b) hta.e rfl rfl) (isE.b2 (o := fun b => fin2 [(3, 2), (3, 3), (5, 1), (5, 2), (5, 3), (5, 4), (5, 5), (5, 6)] b 2) hta.e rfl rfl))
      have r11 : (0 : Int) ≤ (A (ta + 19) 2) ∧ (A (ta + 19) 2) ≤ 1600 := by rw [← e10]; exact irE_2 hta.e hI
      refine va_get (D := (dC, dI)) (ci := 8) (v := .int (iI (A2 (ta + 19) 2))) (C := RX8) (T := TX8) (N := 3) hx hb hts hiX8 hown hK hP (ta + 19) (wkE hta.e) rfl 2 (by decide) (hts _ (List.mem_cons_of_mem _ wkq_7_24)) (fun _ h9 => h9) rfl (dk_at dkX5_readBar_1 4 rfl) ?_
      refine tp_i (y := iI ((A (ta + 19) 2))) (congrArg iI e10) ?_
      refine lv_istore_n (lv' := [(3, .int (iI ((A (ta + 19) 2)))), (2, .int (iI z1)), (0, .ref (q 3)), (1, .ref (q ta))]) hx hb (dk_at dkX5_readBar_1 5 rfl) rfl hl (by decide) rfl (fun ls hl => ?_)
      refine lv_aload_n hx hb (dk_at dkX5_readBar_1 6 rfl) rfl (lv_at hl 2 rfl) ?_
      refine lv_iconst (v := iI 0) hx hb (dk_at dkX5_readBar_1 7 rfl) (by decide +kernel) ?_
      refine k_put (Wf := WK cB cI cJ cZ cQ q) (D := (dC, dI)) (ci := 5) (v := .int (iI 0)) (ty := .int) (C := RX5) (T := TX5) (N := 5) hx hb hts hiX5 tyX5 tyX5_ok nmX5 hown hK hP hDD hS 3 (wkRD) rfl 4 (by decide) (hts _ (List.mem_cons_of_mem _ wkq_7_25)) (fun _ h9 => h9) rfl (by decide +kernel) rfl rfl (Nat.le_of_ble_eq_true rfl) (dk_at dkX5_readBar_1 8 rfl) (wfRD_4 (v := 0)) (fun H locs A12 hA12 hP hS => ?_)
      have hI := isRD_4 hA12 hI (show (0 : Int) ≤ 0 ∧ 0 ≤ 8 from ⟨by decide, by decide⟩)
      refine lv_aload_n hx hb (dk_at dkX5_readBar_1 9 rfl) rfl (lv_at hl 2 rfl) ?_
      refine lv_bipush (v := iI 15) hx hb (dk_at dkX5_readBar_1 10 rfl) (by decide +kernel) ?_
      refine k_calli (As := [.int (iI 15)]) (rest := []) ⟨hx, hb, hml, hown, hts⟩ hE (kc_X5_ownWord l dC dI cB cI cJ cZ cQ aL aS q _ 15 hI ⟨by decide, by decide⟩) (cwV 1 hts (goodVk wkq_6_23 wkq_6_24 wkq_6_25 wkq_5_28 wkq_6_26) rfl rfl rfl (by decide +kernel) ⟨Nat.le_of_ble_eq_true rfl, Nat.le_of_ble_eq_true rfl⟩) hK hDD hA0 hP hS 3 5 (wkRD) rfl rfl hl.1 (Nat.le_of_ble_eq_true rfl) (dk_at dkX5_readBar_1 11 rfl) (fun z13 A14 H locs hw15 hP hS => ?_)
      have ghw15 : q_X5_ownWord 15 A12 z13 A14 := hw15
      obtain ⟨_, hI, hf16, hw15⟩ := hw15
      refine lv_if_eq (tgt := 81) hx hb (dk_at dkX5_readBar_1 12 rfl) (by decide) (fun c17 => ?_) (fun c17 => ?_)
      · have c17 : z13 = 0 := (i_eq0 (rb hw15 (by decide) (by decide))).mp c17
        refine lv_iconst (v := iI 0) hx hb (dk_at dkX5_readBar_2 12 rfl) (by decide +kernel) ?_
        exact RET 0 _ _ _ _ _ ⟨(u_r_X5_readBar ⟨z1, A2, ghw3, (Or.inl ⟨c5, ⟨z6, ghw8, (Or.inl ⟨c9, ⟨A12, hA12, ⟨z13, A14, ghw15, (Or.inl ⟨c17, ⟨rfl, rfl⟩⟩)⟩⟩⟩)⟩⟩)⟩), hI, fk.trans (fk.df (fk.trans (fk.rf) hf4 rfl rfl) hA12 rfl) hf16 rfl rfl, ⟨by decide, by decide⟩⟩ hP hS (dk_at dkX5_readBar_2 13 rfl)
      · have c17 : ¬ z13 = 0 := mt (i_eq0 (rb hw15 (by decide) (by decide))).mpr c17
        refine lv_aload_n hx hb (dk_at dkX5_readBar_1 13 rfl) rfl (lv_at hl 2 rfl) ?_
        refine lv_aload_n hx hb (dk_at dkX5_readBar_1 14 rfl) rfl (lv_at hl 3 rfl) ?_
        refine va_get (D := (dC, dI)) (ci := 9) (v := .ref (q (ta + 19))) (C := RX9) (T := TX9) (N := 16) hx hb hts hiX9 hown hK hP ta (wkT hta) rfl 13 (by decide) (hts _ (List.mem_cons_of_mem _ wkq_7_23)) (fun _ h9 => h9) rfl (dk_at dkX5_readBar_1 15 rfl) ?_
        have e19 : A12 3 4 = 0 := rd_is hA12
        have e18 : A14 3 4 = 0 := (hf16 3 4 rfl rfl).trans e19
        refine k_calli (As := [.ref (q (ta + 19))]) (rest := []) ⟨hx, hb, hml, hown, hts⟩ hE (kq_test l dC dI cB cI cJ cZ cQ aL aS q (ta + 19) hta.e _ 0 rfl (by omega) _ hI (by omega)) (cwV 1 hts (goodVk wkq_7_26 wkq_7_27 wkq_7_28 wkq_5_28 wkq_7_29) rfl rfl rfl (by decide +kernel) ⟨Nat.le_of_ble_eq_true rfl, Nat.le_of_ble_eq_true rfl⟩) hK hDD hA0 hP hS 3 5 (wkRD) rfl rfl hl.1 (Nat.le_of_ble_eq_true rfl) (dk_at dkX5_readBar_2 0 rfl) (fun z20 A21 H locs hw22 hP hS => ?_)
        have ghw22 : q_SS_test (rq_test ((ta + 19)) 8) A14 z20 A21 := hw22
        obtain ⟨_, hI, hf23, hw22⟩ := hw22
        have r24 : (0 : Int) ≤ (A21 3 4) ∧ (A21 3 4) ≤ 8 := irRD_4 hI
        have rz20 : 0 ≤ z20 ∧ z20 ≤ 1 := hw22.1
        have hw22 := hw22.2
        refine lv_if_eq (tgt := 81) hx hb (dk_at dkX5_readBar_2 1 rfl) (by decide) (fun c25 => ?_) (fun c25 => ?_)
        · have c25 : z20 = 0 := (i_eq0 (rb rz20 (by decide) (by decide))).mp c25
          clear hw22
          refine lv_iconst (v := iI 0) hx hb (dk_at dkX5_readBar_2 12 rfl) (by decide +kernel) ?_
          exact RET 0 _ _ _ _ _ ⟨(u_r_X5_readBar ⟨z1, A2, ghw3, (Or.inl ⟨c5, ⟨z6, ghw8, (Or.inl ⟨c9, ⟨A12, hA12, ⟨z13, A14, ghw15, (Or.inr ⟨c17, ⟨z20, A21, ghw22, (Or.inl ⟨c25, ⟨rfl, rfl⟩⟩)⟩⟩)⟩⟩⟩)⟩⟩)⟩), hI, fk.trans (fk.trans (fk.df (fk.trans (fk.rf) hf4 rfl rfl) hA12 rfl) hf16 rfl rfl) hf23 rfl rfl, ⟨by decide, by decide⟩⟩ hP hS (dk_at dkX5_readBar_2 13 rfl)
        · have c25 : ¬ z20 = 0 := mt (i_eq0 (rb rz20 (by decide) (by decide))).mpr c25
          have hw22b := hw22 (by omega)
          clear hw22
          refine lv_aload_n hx hb (dk_at dkX5_readBar_2 2 rfl) rfl (lv_at hl 3 rfl) ?_
          refine lv_iload_n hx hb (dk_at dkX5_readBar_2 3 rfl) rfl (lv_at hl 1 rfl) ?_
          refine lv_iload_n hx hb (dk_at dkX5_readBar_2 4 rfl) rfl (lv_at hl 0 rfl) ?_
          refine lv_aload_n hx hb (dk_at dkX5_readBar_2 5 rfl) rfl (lv_at hl 3 rfl) ?_
          refine va_get (D := (dC, dI)) (ci := 9) (v := .ref (q (ta + 19))) (C := RX9) (T := TX9) (N := 16) hx hb hts hiX9 hown hK hP ta (wkT hta) rfl 13 (by decide) (hts _ (List.mem_cons_of_mem _ wkq_7_23)) (fun _ h9 => h9) rfl (dk_at dkX5_readBar_2 6 rfl) ?_
          have r26 : (0 : Int) ≤ (A21 (ta + 19) 2) ∧ (A21 (ta + 19) 2) ≤ 1600 := irE_2 hta.e hI
          refine va_get (D := (dC, dI)) (ci := 8) (v := .int (iI ((A21 (ta + 19) 2)))) (C := RX8) (T := TX8) (N := 3) hx hb hts hiX8 hown hK hP (ta + 19) (wkE hta.e) rfl 2 (by decide) (hts _ (List.mem_cons_of_mem _ wkq_7_24)) (fun _ h9 => h9) rfl (dk_at dkX5_readBar_2 7 rfl) ?_
          refine k_calli (As := [.int (iI z1), .int (iI ((A (ta + 19) 2))), .int (iI ((A21 (ta + 19) 2)))]) (rest := []) ⟨hx, hb, hml, hown, hts⟩ hE (kc_X9_addBar l dC dI cB cI cJ cZ cQ aL aS q _ ta z1 ((A (ta + 19) 2)) ((A21 (ta + 19) 2)) hI hta (rb hw3 (by decide) (by decide)) (rb r11 (by decide) (by decide)) (rb r26 (by decide) (by decide))) (cwV 3 hts (goodVk wkq_8_21 wkq_8_22 wkq_8_23 wkq_0_6 wkq_8_24) rfl rfl rfl (by decide +kernel) ⟨Nat.le_of_ble_eq_true rfl, Nat.le_of_ble_eq_true rfl⟩) hK hDD hA0 hP hS ta 9 (wkT hta) rfl rfl hl.1 (Nat.le_of_ble_eq_true rfl) (dk_at dkX5_readBar_2 8 rfl) (fun z27 A28 H locs hw29 hP hS => ?_)
          have ghw29 : q_X9_addBar ta z1 ((A (ta + 19) 2)) ((A21 (ta + 19) 2)) A21 z27 A28 := hw29
          obtain ⟨_, hI, hf30, hw29⟩ := hw29
          refine lv_if_eq (tgt := 81) hx hb (dk_at dkX5_readBar_2 9 rfl) (by decide) (fun c31 => ?_) (fun c31 => ?_)
          · have c31 : z27 = 0 := (i_eq0 (rb hw29 (by decide) (by decide))).mp c31
            refine lv_iconst (v := iI 0) hx hb (dk_at dkX5_readBar_2 12 rfl) (by decide +kernel) ?_
            exact RET 0 _ _ _ _ _ ⟨(u_r_X5_readBar ⟨z1, A2, ghw3, (Or.inl ⟨c5, ⟨z6, ghw8, (Or.inl ⟨c9, ⟨A12, hA12, ⟨z13, A14, ghw15, (Or.inr ⟨c17, ⟨z20, A21, ghw22, (Or.inr ⟨c25, ⟨z27, A28, ghw29, (Or.inl ⟨c31, ⟨rfl, rfl⟩⟩)⟩⟩)⟩⟩)⟩⟩⟩)⟩⟩)⟩), hI, fk.trans (fk.trans (fk.trans (fk.df (fk.trans (fk.rf) hf4 rfl rfl) hA12 rfl) hf16 rfl rfl) hf23 rfl rfl) hf30 rfl rfl, ⟨by decide, by decide⟩⟩ hP hS (dk_at dkX5_readBar_2 13 rfl)
          · have c31 : ¬ z27 = 0 := mt (i_eq0 (rb hw29 (by decide) (by decide))).mpr c31
            refine lv_iconst (v := iI 1) hx hb (dk_at dkX5_readBar_2 10 rfl) (by decide +kernel) ?_
            refine lv_goto (tgt := 82) hx hb (dk_at dkX5_readBar_2 11 rfl) (by decide) ?_
            exact RET 1 _ _ _ _ _ ⟨(u_r_X5_readBar ⟨z1, A2, ghw3, (Or.inl ⟨c5, ⟨z6, ghw8, (Or.inl ⟨c9, ⟨A12, hA12, ⟨z13, A14, ghw15, (Or.inr ⟨c17, ⟨z20, A21, ghw22, (Or.inr ⟨c25, ⟨z27, A28, ghw29, (Or.inr ⟨c31, ⟨rfl, rfl⟩⟩)⟩⟩)⟩⟩)⟩⟩⟩)⟩⟩)⟩), hI, fk.trans (fk.trans (fk.trans (fk.df (fk.trans (fk.rf) hf4 rfl rfl) hA12 rfl) hf16 rfl rfl) hf23 rfl rfl) hf30 rfl rfl, ⟨by decide, by decide⟩⟩ hP hS (dk_at dkX5_readBar_2 13 rfl)
    · have c9 : ¬ z6 = 0 := mt (i_eq0 (rb rz6 (by decide) (by decide))).mpr c9
      have hw8b := hw8 (by omega)
      clear hw8
      refine lv_aload_n hx hb (dk_at dkX5_readBar_0 14 rfl) rfl (lv_at hl 1 rfl) ?_
      refine lv_iconst (v := iI 3) hx hb (dk_at dkX5_readBar_0 15 rfl) (by decide +kernel) ?_
      refine k_calli (As := [.int (iI 3)]) (rest := []) ⟨hx, hb, hml, hown, hts⟩ hE (kc_X5_bad l dC dI cB cI cJ cZ cQ aL aS q _ 3 hI ⟨by decide, by decide⟩) (cwV 1 hts (goodVk wkq_5_37 wkq_5_38 wkq_5_39 wkq_5_28 wkq_5_40) rfl rfl rfl (by decide +kernel) ⟨Nat.le_of_ble_eq_true rfl, Nat.le_of_ble_eq_true rfl⟩) hK hDD hA0 hP hS 3 5 (wkRD) rfl rfl hl.1 (Nat.le_of_ble_eq_true rfl) (dk_at dkX5_readBar_1 0 rfl) (fun z32 A33 H locs hw34 hP hS => ?_)
      have ghw34 : q_X5_bad 3 A2 z32 A33 := hw34
      obtain ⟨_, hI, hf35, hw34⟩ := hw34
      have rz32 : 0 ≤ z32 ∧ z32 ≤ 1 := hw34.1
      have hw34 := hw34.2
      exact RET z32 _ _ _ _ _ ⟨(u_r_X5_readBar ⟨z1, A2, ghw3, (Or.inl ⟨c5, ⟨z6, ghw8, (Or.inr ⟨c9, ⟨z32, A33, ghw34, ⟨rfl, rfl⟩⟩⟩)⟩⟩)⟩), hI, fk.trans (fk.trans (fk.rf) hf4 rfl rfl) hf35 rfl rfl, rz32⟩ hP hS (dk_at dkX5_readBar_1 1 rfl)
  · have c5 : z1 = (-1) := (i_eq (rb hw3 (by decide) (by decide)) ⟨by decide, by decide⟩).mp c5
    refine lv_iconst (v := iI 0) hx hb (dk_at dkX5_readBar_0 8 rfl) (by decide +kernel) ?_
    exact RET 0 _ _ _ _ _ ⟨(u_r_X5_readBar ⟨z1, A2, ghw3, (Or.inr ⟨c5, ⟨rfl, rfl⟩⟩)⟩), hI, fk.trans (fk.rf) hf4 rfl rfl, ⟨by decide, by decide⟩⟩ hP hS (dk_at dkX5_readBar_0 9 rfl)

abbrev tr_r_X9_addMust (ta : Nat) (x1 : Int) (x2 : Int) (x3 : Int) (A : St) (z : Int) (u : St) : Prop := (∃ z1 : Int, z1 = A (ta + 1) (6 : Int).toNat ∧ (((z1 < 6) ∧ (∃ A4 : St, A4 = stA A (ta + 13) (z1).toNat x1 ∧ (∃ A5 : St, A5 = stA A4 (ta + 14) (z1).toNat x2 ∧ (∃ A6 : St, A6 = stA A5 (ta + 15) (z1).toNat x3 ∧ (∃ A11 : St, A11 = stA A6 (ta + 1) (6 : Int).toNat (z1 + 1) ∧ (z = 1 ∧ u = A11)))))) ∨ ((¬ z1 < 6) ∧ (z = 0 ∧ u = A))))
def r_X9_addMust (ta : Nat) (x1 : Int) (x2 : Int) (x3 : Int) (A : St) (z : Int) (u : St) : Prop := tr_r_X9_addMust ta x1 x2 x3 A z u
theorem u_r_X9_addMust {ta : Nat} {x1 : Int} {x2 : Int} {x3 : Int} {A : St} {z : Int} {u : St} (h : tr_r_X9_addMust ta x1 x2 x3 A z u) : r_X9_addMust ta x1 x2 x3 A z u := h
def q_X9_addMust (ta : Nat) (x1 : Int) (x2 : Int) (x3 : Int) (A : St) (z : Int) (u : St) : Prop := r_X9_addMust ta x1 x2 x3 A z u ∧ IK u ∧ fk [52, 64, 65, 66, 83, 95, 96, 97] [] A u ∧ (0 ≤ z ∧ z ≤ 1)
def ws_kc_X9_addMust : List Cond := .code yX9_addMust cX9_addMust 5 (some .boolean) :: WY
set_option maxHeartbeats 4000000 in
set_option maxRecDepth 100000 in
theorem kc_X9_addMust (l : Launch) (dC : Nat → ClassId) (dI : Nat → Nat → Nat) (cB cI cJ cZ cQ : ClassId) (aL aS : Nat) (q : Nat → Nat) (A : St) (ta : Nat) (x1 x2 x3 : Int) (hI : IK A) (hta : isT ta) (hx1 : (-2147483648 : Int) ≤ x1 ∧ x1 ≤ 2147483647) (hx2 : (-2147483648 : Int) ≤ x2 ∧ x2 ≤ 2147483647) (hx3 : (-2147483648 : Int) ≤ x3 ∧ x3 ≤ 2147483647) : KMi l yX9_addMust ws_kc_X9_addMust ({ frames := 0, cells := 0, slots := 0, locals := 0 } : Room) aL aS (dC, dI) (tyA cB cI cJ cZ cQ) (WK cB cI cJ cZ cQ q) A [.ref (q ta), .int (iI x1), .int (iI x2), .int (iI x3)] (fun z u => r_X9_addMust ta x1 x2 x3 A z u ∧ IK u ∧ fk [52, 64, 65, 66, 83, 95, 96, 97] [] A u ∧ (0 ≤ z ∧ z ≤ 1)) := by
  refine k_metz (cc := cX9_addMust) (maxL := 5) WK_adr (plainFor_of_name (by decide +kernel)) rfl (Nat.le_of_ble_eq_true rfl) (fun z u h => h.2.2.2) (fun p e s m below meth c Q AS ls hx hb hml hown hts hK hDD hA0 hE RET H locs hP hS hl => ?_)
  have hown : s.vm.findClass RX9 = some m.cls := hown
  have hl : lv_has ls 5 [(0, .ref (q ta)), (1, .int (iI x1)), (2, .int (iI x2)), (3, .int (iI x3))] := hl
  have hiX9 : ∀ w ∈ u_ws RX9 TX9 16, w ∈ ws_kc_X9_addMust := fun w h => List.mem_cons_of_mem _ (wy_layX9 w h)
  refine lv_aload_n hx hb (dk_at dkX9_addMust_0 0 rfl) rfl (lv_at hl 0 rfl) ?_
  refine va_get (D := (dC, dI)) (ci := 9) (v := .ref (q (ta + 1))) (C := RX9) (T := TX9) (N := 16) hx hb hts hiX9 hown hK hP ta (wkT hta) rfl 0 (by decide) (hts _ (List.mem_cons_of_mem _ wkq_0_8)) (fun _ h9 => h9) rfl (dk_at dkX9_addMust_0 1 rfl) ?_
  refine lv_bipush (v := iI 6) hx hb (dk_at dkX9_addMust_0 2 rfl) (by decide +kernel) ?_
  refine x_iald (Wf := WK cB cI cJ cZ cQ q) hx hb hK hP (ta + 1) 1 (wkTc hta) rfl (by decide) (by decide) (dk_at dkX9_addMust_0 3 rfl) (fun z1 hz1 => ?_)
  have rz1 : (0 : Int) ≤ z1 ∧ z1 ≤ 6 := by rw [hz1]; exact irTc6 hta hI
  have gz1 := Hd.mk hz1
  refine lv_istore (lv' := [(4, .int (iI z1)), (0, .ref (q ta)), (1, .int (iI x1)), (2, .int (iI x2)), (3, .int (iI x3))]) hx hb (dk_at dkX9_addMust_0 4 rfl) hl (by decide) rfl (fun ls hl => ?_)
  refine lv_iload hx hb (dk_at dkX9_addMust_0 5 rfl) (lv_at hl 0 rfl) ?_
  refine lv_if_lt (tgt := 21) hx hb (dk_at dkX9_addMust_0 6 rfl) (by decide) (fun c2 => False.elim (by have c2 : z1 < 0 := (i_lt0 (rb rz1 (by decide) (by decide))).mp c2; omega)) (fun _ => ?_)
  refine lv_iload hx hb (dk_at dkX9_addMust_0 7 rfl) (lv_at hl 0 rfl) ?_
  refine lv_bipush (v := iI 6) hx hb (dk_at dkX9_addMust_0 8 rfl) (by decide +kernel) ?_
  refine lv_icmp_lt (tgt := 23) hx hb (dk_at dkX9_addMust_0 9 rfl) (by decide) (fun c3 => ?_) (fun c3 => ?_)
  · have c3 : z1 < 6 := (i_lt (rb rz1 (by decide) (by decide)) ⟨by decide, by decide⟩).mp c3
    refine lv_aload_n hx hb (dk_at dkX9_addMust_0 12 rfl) rfl (lv_at hl 1 rfl) ?_
    refine va_get (D := (dC, dI)) (ci := 9) (v := .ref (q (ta + 13))) (C := RX9) (T := TX9) (N := 16) hx hb hts hiX9 hown hK hP ta (wkT hta) rfl 7 (by decide) (hts _ (List.mem_cons_of_mem _ wkq_7_16)) (fun _ h9 => h9) rfl (dk_at dkX9_addMust_0 13 rfl) ?_
    refine lv_iload hx hb (dk_at dkX9_addMust_0 14 rfl) (lv_at hl 0 rfl) ?_
    refine lv_iload_n hx hb (dk_at dkX9_addMust_0 15 rfl) rfl (lv_at hl 2 rfl) ?_
    refine k_iast (Wf := WK cB cI cJ cZ cQ q) hx hb hK hP hDD hS (ta + 13) 1 (wkTmd hta) rfl (by omega) (by decide) (dk_at dkX9_addMust_1 0 rfl) (wsTmd hta) (fun H locs A4 hA4 hP hS => ?_)
    have hI := isTmd hta hA4 hI (show (-2147483648 : Int) ≤ x1 ∧ x1 ≤ 2147483647 from hx1)
    refine lv_aload_n hx hb (dk_at dkX9_addMust_1 1 rfl) rfl (lv_at hl 1 rfl) ?_
    refine va_get (D := (dC, dI)) (ci := 9) (v := .ref (q (ta + 14))) (C := RX9) (T := TX9) (N := 16) hx hb hts hiX9 hown hK hP ta (wkT hta) rfl 8 (by decide) (hts _ (List.mem_cons_of_mem _ wkq_7_17)) (fun _ h9 => h9) rfl (dk_at dkX9_addMust_1 2 rfl) ?_
    refine lv_iload hx hb (dk_at dkX9_addMust_1 3 rfl) (lv_at hl 0 rfl) ?_
    refine lv_iload_n hx hb (dk_at dkX9_addMust_1 4 rfl) rfl (lv_at hl 3 rfl) ?_
    refine k_iast (Wf := WK cB cI cJ cZ cQ q) hx hb hK hP hDD hS (ta + 14) 1 (wkTmb hta) rfl (by omega) (by decide) (dk_at dkX9_addMust_1 5 rfl) (wsTmb hta) (fun H locs A5 hA5 hP hS => ?_)
    have hI := isTmb hta hA5 hI (show (-2147483648 : Int) ≤ x2 ∧ x2 ≤ 2147483647 from hx2)
    refine lv_aload_n hx hb (dk_at dkX9_addMust_1 6 rfl) rfl (lv_at hl 1 rfl) ?_
    refine va_get (D := (dC, dI)) (ci := 9) (v := .ref (q (ta + 15))) (C := RX9) (T := TX9) (N := 16) hx hb hts hiX9 hown hK hP ta (wkT hta) rfl 9 (by decide) (hts _ (List.mem_cons_of_mem _ wkq_7_18)) (fun _ h9 => h9) rfl (dk_at dkX9_addMust_1 7 rfl) ?_
    refine lv_iload hx hb (dk_at dkX9_addMust_1 8 rfl) (lv_at hl 0 rfl) ?_
    refine lv_iload_n hx hb (dk_at dkX9_addMust_1 9 rfl) rfl (lv_at hl 4 rfl) ?_
    refine k_iast (Wf := WK cB cI cJ cZ cQ q) hx hb hK hP hDD hS (ta + 15) 1 (wkTme hta) rfl (by omega) (by decide) (dk_at dkX9_addMust_1 10 rfl) (wsTme hta) (fun H locs A6 hA6 hP hS => ?_)
    have hI := isTme hta hA6 hI (show (-2147483648 : Int) ≤ x3 ∧ x3 ≤ 2147483647 from hx3)
    refine lv_aload_n hx hb (dk_at dkX9_addMust_1 11 rfl) rfl (lv_at hl 1 rfl) ?_
    refine va_get (D := (dC, dI)) (ci := 9) (v := .ref (q (ta + 1))) (C := RX9) (T := TX9) (N := 16) hx hb hts hiX9 hown hK hP ta (wkT hta) rfl 0 (by decide) (hts _ (List.mem_cons_of_mem _ wkq_0_8)) (fun _ h9 => h9) rfl (dk_at dkX9_addMust_1 12 rfl) ?_
    refine lv_bipush (v := iI 6) hx hb (dk_at dkX9_addMust_1 13 rfl) (by decide +kernel) ?_
    refine lv_dup2_11 hx hb (dk_at dkX9_addMust_1 14 rfl) rfl rfl ?_
    have a9 : ∀ k, A4 (ta + 1) k = A (ta + 1) k := fun k => rd_ne hA4 (by omega) k
    have a8 : ∀ k, A5 (ta + 1) k = A (ta + 1) k := fun k => (rd_ne hA5 (by omega) k).trans (a9 k)
    have a7 : ∀ k, A6 (ta + 1) k = A (ta + 1) k := fun k => (rd_ne hA6 (by omega) k).trans (a8 k)
    refine x_iald (Wf := WK cB cI cJ cZ cQ q) hx hb hK hP (ta + 1) 1 (wkTc hta) rfl (by decide) (by decide) (dk_at dkX9_addMust_1 15 rfl) (fun z10 hz10 => ?_)
    have rz10 : (0 : Int) ≤ z10 ∧ z10 ≤ 6 := by rw [hz10]; exact irTc6 hta hI
    have gz10 := Hd.mk hz10
    have hz10 : z10 = A (ta + 1) (6 : Int).toNat := hz10.trans (a7 _)
    have ez10 : z10 = z1 := hz10.trans hz1.symm
    refine tp_i (y := iI z1) (congrArg iI ez10) ?_
    refine lv_iconst (v := iI 1) hx hb (dk_at dkX9_addMust_2 0 rfl) (by decide +kernel) ?_
    refine x_addv (v := z1 + 1) hx hb (dk_at dkX9_addMust_2 1 rfl) (by omega) ?_
    refine k_iast (Wf := WK cB cI cJ cZ cQ q) hx hb hK hP hDD hS (ta + 1) 1 (wkTc hta) rfl (by decide) (by decide) (dk_at dkX9_addMust_2 2 rfl) (wsTc hta) (fun H locs A11 hA11 hP hS => ?_)
    have hI := isTc hta hA11 hI (show (0 : Int) ≤ z1 + 1 ∧ z1 + 1 ≤ 6 from (by omega))
    refine lv_iconst (v := iI 1) hx hb (dk_at dkX9_addMust_2 3 rfl) (by decide +kernel) ?_
    exact RET 1 _ _ _ _ _ ⟨(u_r_X9_addMust ⟨z1, gz1.out, (Or.inl ⟨c3, ⟨A4, hA4, ⟨A5, hA5, ⟨A6, hA6, ⟨A11, hA11, ⟨rfl, rfl⟩⟩⟩⟩⟩⟩)⟩), hI, fk.da (fk.da (fk.da (fk.da (fk.rf) hA4 (isT.b2 (o := fun b => List.contains [52, 64, 65, 66, 83, 95, 96, 97] (b + 13)) hta rfl rfl)) hA5 (isT.b2 (o := fun b => List.contains [52, 64, 65, 66, 83, 95, 96, 97] (b + 14)) hta rfl rfl)) hA6 (isT.b2 (o := fun b => List.contains [52, 64, 65, 66, 83, 95, 96, 97] (b + 15)) hta rfl rfl)) hA11 (isT.b2 (o := fun b => List.contains [52, 64, 65, 66, 83, 95, 96, 97] (b + 1)) hta rfl rfl), ⟨by decide, by decide⟩⟩ hP hS (dk_at dkX9_addMust_2 4 rfl)
  · have c3 : ¬ z1 < 6 := mt (i_lt (rb rz1 (by decide) (by decide)) ⟨by decide, by decide⟩).mpr c3
    refine lv_iconst (v := iI 0) hx hb (dk_at dkX9_addMust_0 10 rfl) (by decide +kernel) ?_
    exact RET 0 _ _ _ _ _ ⟨(u_r_X9_addMust ⟨z1, gz1.out, (Or.inr ⟨c3, ⟨rfl, rfl⟩⟩)⟩), hI, fk.rf, ⟨by decide, by decide⟩⟩ hP hS (dk_at dkX9_addMust_0 11 rfl)

abbrev tr_r_X5_number (x1 : Int) (x2 : Int) (A : St) (z : Int) (u : St) : Prop := (∃ A1 : St, q_X3_look A A1 ∧ ((((A1 5 2) = 2) ∧ (∃ A6 : St, q_X3_pass A1 A6 ∧ ((((A1 5 4) < x1) ∧ (∃ z12 : Int, ∃ A13 : St, q_X5_none 4 A6 z12 A13 ∧ (z = z12 ∧ u = A13))) ∨ ((¬ (A1 5 4) < x1) ∧ ((((A1 5 4) ≤ x2) ∧ (z = (A1 5 4) ∧ u = A6)) ∨ ((¬ (A1 5 4) ≤ x2) ∧ (∃ z17 : Int, ∃ A18 : St, q_X5_none 4 A6 z17 A18 ∧ (z = z17 ∧ u = A18)))))))) ∨ ((¬ (A1 5 2) = 2) ∧ (∃ z21 : Int, ∃ A22 : St, q_X5_none 1 A1 z21 A22 ∧ (z = z21 ∧ u = A22)))))
def r_X5_number (x1 : Int) (x2 : Int) (A : St) (z : Int) (u : St) : Prop := tr_r_X5_number x1 x2 A z u
theorem u_r_X5_number {x1 : Int} {x2 : Int} {A : St} {z : Int} {u : St} (h : tr_r_X5_number x1 x2 A z u) : r_X5_number x1 x2 A z u := h
def q_X5_number (x1 : Int) (x2 : Int) (A : St) (z : Int) (u : St) : Prop := r_X5_number x1 x2 A z u ∧ IK u ∧ fk [] [(3, 2), (3, 3), (5, 1), (5, 2), (5, 3), (5, 4), (5, 5), (5, 6)] A u ∧ (-2147483648 ≤ z ∧ z ≤ 2147483647)
def ws_kc_X5_number : List Cond := .code yX5_number cX5_number 3 (some .int) :: WY
set_option maxHeartbeats 4000000 in
set_option maxRecDepth 100000 in
theorem kc_X5_number (l : Launch) (dC : Nat → ClassId) (dI : Nat → Nat → Nat) (cB cI cJ cZ cQ : ClassId) (aL aS : Nat) (q : Nat → Nat) (A : St) (x1 x2 : Int) (hI : IK A) (hx1 : (-2147483648 : Int) ≤ x1 ∧ x1 ≤ 2147483647) (hx2 : (-2147483648 : Int) ≤ x2 ∧ x2 ≤ 2147483647) : KMi l yX5_number ws_kc_X5_number ({ frames := 2, cells := 0, slots := 0, locals := 45 } : Room) aL aS (dC, dI) (tyA cB cI cJ cZ cQ) (WK cB cI cJ cZ cQ q) A [.ref (q 3), .int (iI x1), .int (iI x2)] (fun z u => r_X5_number x1 x2 A z u ∧ IK u ∧ fk [] [(3, 2), (3, 3), (5, 1), (5, 2), (5, 3), (5, 4), (5, 5), (5, 6)] A u ∧ (-2147483648 ≤ z ∧ z ≤ 2147483647)) := by
  refine k_meti (cc := cX5_number) (maxL := 3) WK_adr (plainFor_of_name (by decide +kernel)) rfl (Nat.le_of_ble_eq_true rfl) (fun p e s m below meth c Q AS ls hx hb hml hown hts hK hDD hA0 hE RET H locs hP hS hl => ?_)
  have hown : s.vm.findClass RX5 = some m.cls := hown
  have hl : lv_has ls 3 [(0, .ref (q 3)), (1, .int (iI x1)), (2, .int (iI x2))] := hl
  have hiX5 : ∀ w ∈ u_ws RX5 TX5 5, w ∈ ws_kc_X5_number := fun w h => List.mem_cons_of_mem _ (wy_layX5 w h)
  have hiX3 : ∀ w ∈ u_ws RX3 TX3 7, w ∈ ws_kc_X5_number := fun w h => List.mem_cons_of_mem _ (wy_layX3 w h)
  refine lv_aload_n hx hb (dk_at dkX5_number_0 0 rfl) rfl (lv_at hl 0 rfl) ?_
  refine va_get (D := (dC, dI)) (ci := 5) (v := .ref (q 5)) (C := RX5) (T := TX5) (N := 5) hx hb hts hiX5 hown hK hP 3 (wkRD) rfl 0 (by decide) (hts _ (List.mem_cons_of_mem _ wkq_5_6)) (fun _ h9 => h9) rfl (dk_at dkX5_number_0 1 rfl) ?_
  refine k_callv (As := []) (rest := []) ⟨hx, hb, hml, hown, hts⟩ hE (kc_X3_look l dC dI cB cI cJ cZ cQ aL aS q _ hI) (cwV 0 hts (goodVk wkq_5_22 wkq_5_23 wkq_5_24 wkq_4_10 wkq_4_2) rfl rfl rfl (by decide +kernel) ⟨Nat.le_of_ble_eq_true rfl, Nat.le_of_ble_eq_true rfl⟩) hK hDD hA0 hP hS 5 3 (wkLX) rfl rfl hl.1 (Nat.le_of_ble_eq_true rfl) (dk_at dkX5_number_0 2 rfl) (fun A1 H locs hw2 hP hS => ?_)
  have ghw2 : q_X3_look A A1 := hw2
  obtain ⟨_, hI, hf3, hw2⟩ := hw2
  clear hw2
  refine lv_aload_n hx hb (dk_at dkX5_number_0 3 rfl) rfl (lv_at hl 0 rfl) ?_
  refine va_get (D := (dC, dI)) (ci := 5) (v := .ref (q 5)) (C := RX5) (T := TX5) (N := 5) hx hb hts hiX5 hown hK hP 3 (wkRD) rfl 0 (by decide) (hts _ (List.mem_cons_of_mem _ wkq_5_6)) (fun _ h9 => h9) rfl (dk_at dkX5_number_0 4 rfl) ?_
  have r4 : (0 : Int) ≤ (A1 5 2) ∧ (A1 5 2) ≤ 4 := irLX_2 hI
  refine va_get (D := (dC, dI)) (ci := 3) (v := .int (iI (A1 5 2))) (C := RX3) (T := TX3) (N := 7) hx hb hts hiX3 hown hK hP 5 (wkLX) rfl 2 (by decide) (hts _ (List.mem_cons_of_mem _ wkq_5_9)) (fun _ h9 => h9) rfl (dk_at dkX5_number_0 5 rfl) ?_
  refine lv_iconst (v := iI 2) hx hb (dk_at dkX5_number_0 6 rfl) (by decide +kernel) ?_
  refine lv_icmp_eq (tgt := 24) hx hb (dk_at dkX5_number_0 7 rfl) (by decide) (fun c5 => ?_) (fun c5 => ?_)
  · have c5 : (A1 5 2) = 2 := (i_eq (rb r4 (by decide) (by decide)) ⟨by decide, by decide⟩).mp c5
    refine lv_aload_n hx hb (dk_at dkX5_number_0 12 rfl) rfl (lv_at hl 0 rfl) ?_
    refine va_get (D := (dC, dI)) (ci := 5) (v := .ref (q 5)) (C := RX5) (T := TX5) (N := 5) hx hb hts hiX5 hown hK hP 3 (wkRD) rfl 0 (by decide) (hts _ (List.mem_cons_of_mem _ wkq_5_6)) (fun _ h9 => h9) rfl (dk_at dkX5_number_0 13 rfl) ?_
    refine k_callv (As := []) (rest := []) ⟨hx, hb, hml, hown, hts⟩ hE (kc_X3_pass l dC dI cB cI cJ cZ cQ aL aS q _ hI) (cwV 0 hts (goodVk wkq_5_42 wkq_5_43 wkq_5_44 wkq_4_10 wkq_3_58) rfl rfl rfl (by decide +kernel) ⟨Nat.le_of_ble_eq_true rfl, Nat.le_of_ble_eq_true rfl⟩) hK hDD hA0 hP hS 5 3 (wkLX) rfl rfl hl.1 (Nat.le_of_ble_eq_true rfl) (dk_at dkX5_number_0 14 rfl) (fun A6 H locs hw7 hP hS => ?_)
    have ghw7 : q_X3_pass A1 A6 := hw7
    obtain ⟨_, hI, hf8, hw7⟩ := hw7
    clear hw7
    refine lv_aload_n hx hb (dk_at dkX5_number_0 15 rfl) rfl (lv_at hl 0 rfl) ?_
    refine va_get (D := (dC, dI)) (ci := 5) (v := .ref (q 5)) (C := RX5) (T := TX5) (N := 5) hx hb hts hiX5 hown hK hP 3 (wkRD) rfl 0 (by decide) (hts _ (List.mem_cons_of_mem _ wkq_5_6)) (fun _ h9 => h9) rfl (dk_at dkX5_number_1 0 rfl) ?_
    have e9 : A6 5 4 = (A1 5 4) := (hf8 5 4 rfl rfl)
    have r10 : (-2147483648 : Int) ≤ (A1 5 4) ∧ (A1 5 4) ≤ 2147483647 := by rw [← e9]; exact irLX_4 hI
    refine va_get (D := (dC, dI)) (ci := 3) (v := .int (iI (A6 5 4))) (C := RX3) (T := TX3) (N := 7) hx hb hts hiX3 hown hK hP 5 (wkLX) rfl 4 (by decide) (hts _ (List.mem_cons_of_mem _ wkq_5_30)) (fun _ h9 => h9) rfl (dk_at dkX5_number_1 1 rfl) ?_
    refine tp_i (y := iI (A1 5 4)) (congrArg iI e9) ?_
    refine lv_iload_n hx hb (dk_at dkX5_number_1 2 rfl) rfl (lv_at hl 1 rfl) ?_
    refine lv_icmp_lt (tgt := 53) hx hb (dk_at dkX5_number_1 3 rfl) (by decide) (fun c11 => ?_) (fun c11 => ?_)
    · have c11 : (A1 5 4) < x1 := (i_lt r10 hx1).mp c11
      refine lv_aload_n hx hb (dk_at dkX5_number_1 9 rfl) rfl (lv_at hl 0 rfl) ?_
      refine lv_iconst (v := iI 4) hx hb (dk_at dkX5_number_1 10 rfl) (by decide +kernel) ?_
      refine k_calli (As := [.int (iI 4)]) (rest := []) ⟨hx, hb, hml, hown, hts⟩ hE (kc_X5_none l dC dI cB cI cJ cZ cQ aL aS q _ 4 hI ⟨by decide, by decide⟩) (cwV 1 hts (goodVk wkq_5_33 wkq_5_34 wkq_5_35 wkq_5_28 wkq_5_36) rfl rfl rfl (by decide +kernel) ⟨Nat.le_of_ble_eq_true rfl, Nat.le_of_ble_eq_true rfl⟩) hK hDD hA0 hP hS 3 5 (wkRD) rfl rfl hl.1 (Nat.le_of_ble_eq_true rfl) (dk_at dkX5_number_1 11 rfl) (fun z12 A13 H locs hw14 hP hS => ?_)
      have ghw14 : q_X5_none 4 A6 z12 A13 := hw14
      obtain ⟨_, hI, hf15, hw14⟩ := hw14
      refine lv_goto (tgt := 68) hx hb (dk_at dkX5_number_1 12 rfl) (by decide) ?_
      exact RET z12 _ _ _ _ _ ⟨(u_r_X5_number ⟨A1, ghw2, (Or.inl ⟨c5, ⟨A6, ghw7, (Or.inl ⟨c11, ⟨z12, A13, ghw14, ⟨rfl, rfl⟩⟩⟩)⟩⟩)⟩), hI, fk.trans (fk.trans (fk.trans (fk.rf) hf3 rfl rfl) hf8 rfl rfl) hf15 rfl rfl, (by omega)⟩ hP hS (dk_at dkX5_number_2 0 rfl)
    · have c11 : ¬ (A1 5 4) < x1 := mt (i_lt r10 hx1).mpr c11
      refine lv_aload_n hx hb (dk_at dkX5_number_1 4 rfl) rfl (lv_at hl 0 rfl) ?_
      refine va_get (D := (dC, dI)) (ci := 5) (v := .ref (q 5)) (C := RX5) (T := TX5) (N := 5) hx hb hts hiX5 hown hK hP 3 (wkRD) rfl 0 (by decide) (hts _ (List.mem_cons_of_mem _ wkq_5_6)) (fun _ h9 => h9) rfl (dk_at dkX5_number_1 5 rfl) ?_
      refine va_get (D := (dC, dI)) (ci := 3) (v := .int (iI (A6 5 4))) (C := RX3) (T := TX3) (N := 7) hx hb hts hiX3 hown hK hP 5 (wkLX) rfl 4 (by decide) (hts _ (List.mem_cons_of_mem _ wkq_5_30)) (fun _ h9 => h9) rfl (dk_at dkX5_number_1 6 rfl) ?_
      refine tp_i (y := iI (A1 5 4)) (congrArg iI e9) ?_
      refine lv_iload_n hx hb (dk_at dkX5_number_1 7 rfl) rfl (lv_at hl 2 rfl) ?_
      refine lv_icmp_le (tgt := 61) hx hb (dk_at dkX5_number_1 8 rfl) (by decide) (fun c16 => ?_) (fun c16 => ?_)
      · have c16 : (A1 5 4) ≤ x2 := (i_le r10 hx2).mp c16
        refine lv_aload_n hx hb (dk_at dkX5_number_1 13 rfl) rfl (lv_at hl 0 rfl) ?_
        refine va_get (D := (dC, dI)) (ci := 5) (v := .ref (q 5)) (C := RX5) (T := TX5) (N := 5) hx hb hts hiX5 hown hK hP 3 (wkRD) rfl 0 (by decide) (hts _ (List.mem_cons_of_mem _ wkq_5_6)) (fun _ h9 => h9) rfl (dk_at dkX5_number_1 14 rfl) ?_
        refine va_get (D := (dC, dI)) (ci := 3) (v := .int (iI (A6 5 4))) (C := RX3) (T := TX3) (N := 7) hx hb hts hiX3 hown hK hP 5 (wkLX) rfl 4 (by decide) (hts _ (List.mem_cons_of_mem _ wkq_5_30)) (fun _ h9 => h9) rfl (dk_at dkX5_number_1 15 rfl) ?_
        refine tp_i (y := iI (A1 5 4)) (congrArg iI e9) ?_
        exact RET (A1 5 4) _ _ _ _ _ ⟨(u_r_X5_number ⟨A1, ghw2, (Or.inl ⟨c5, ⟨A6, ghw7, (Or.inr ⟨c11, (Or.inl ⟨c16, ⟨rfl, rfl⟩⟩)⟩)⟩⟩)⟩), hI, fk.trans (fk.trans (fk.rf) hf3 rfl rfl) hf8 rfl rfl, r10⟩ hP hS (dk_at dkX5_number_2 0 rfl)
      · have c16 : ¬ (A1 5 4) ≤ x2 := mt (i_le r10 hx2).mpr c16
        refine lv_aload_n hx hb (dk_at dkX5_number_1 9 rfl) rfl (lv_at hl 0 rfl) ?_
        refine lv_iconst (v := iI 4) hx hb (dk_at dkX5_number_1 10 rfl) (by decide +kernel) ?_
        refine k_calli (As := [.int (iI 4)]) (rest := []) ⟨hx, hb, hml, hown, hts⟩ hE (kc_X5_none l dC dI cB cI cJ cZ cQ aL aS q _ 4 hI ⟨by decide, by decide⟩) (cwV 1 hts (goodVk wkq_5_33 wkq_5_34 wkq_5_35 wkq_5_28 wkq_5_36) rfl rfl rfl (by decide +kernel) ⟨Nat.le_of_ble_eq_true rfl, Nat.le_of_ble_eq_true rfl⟩) hK hDD hA0 hP hS 3 5 (wkRD) rfl rfl hl.1 (Nat.le_of_ble_eq_true rfl) (dk_at dkX5_number_1 11 rfl) (fun z17 A18 H locs hw19 hP hS => ?_)
        have ghw19 : q_X5_none 4 A6 z17 A18 := hw19
        obtain ⟨_, hI, hf20, hw19⟩ := hw19
        refine lv_goto (tgt := 68) hx hb (dk_at dkX5_number_1 12 rfl) (by decide) ?_
        exact RET z17 _ _ _ _ _ ⟨(u_r_X5_number ⟨A1, ghw2, (Or.inl ⟨c5, ⟨A6, ghw7, (Or.inr ⟨c11, (Or.inr ⟨c16, ⟨z17, A18, ghw19, ⟨rfl, rfl⟩⟩⟩)⟩)⟩⟩)⟩), hI, fk.trans (fk.trans (fk.trans (fk.rf) hf3 rfl rfl) hf8 rfl rfl) hf20 rfl rfl, (by omega)⟩ hP hS (dk_at dkX5_number_2 0 rfl)
  · have c5 : ¬ (A1 5 2) = 2 := mt (i_eq (rb r4 (by decide) (by decide)) ⟨by decide, by decide⟩).mpr c5
    refine lv_aload_n hx hb (dk_at dkX5_number_0 8 rfl) rfl (lv_at hl 0 rfl) ?_
    refine lv_iconst (v := iI 1) hx hb (dk_at dkX5_number_0 9 rfl) (by decide +kernel) ?_
    refine k_calli (As := [.int (iI 1)]) (rest := []) ⟨hx, hb, hml, hown, hts⟩ hE (kc_X5_none l dC dI cB cI cJ cZ cQ aL aS q _ 1 hI ⟨by decide, by decide⟩) (cwV 1 hts (goodVk wkq_5_33 wkq_5_34 wkq_5_35 wkq_5_28 wkq_5_36) rfl rfl rfl (by decide +kernel) ⟨Nat.le_of_ble_eq_true rfl, Nat.le_of_ble_eq_true rfl⟩) hK hDD hA0 hP hS 3 5 (wkRD) rfl rfl hl.1 (Nat.le_of_ble_eq_true rfl) (dk_at dkX5_number_0 10 rfl) (fun z21 A22 H locs hw23 hP hS => ?_)
    have ghw23 : q_X5_none 1 A1 z21 A22 := hw23
    obtain ⟨_, hI, hf24, hw23⟩ := hw23
    exact RET z21 _ _ _ _ _ ⟨(u_r_X5_number ⟨A1, ghw2, (Or.inr ⟨c5, ⟨z21, A22, ghw23, ⟨rfl, rfl⟩⟩⟩)⟩), hI, fk.trans (fk.trans (fk.rf) hf3 rfl rfl) hf24 rfl rfl, (by omega)⟩ hP hS (dk_at dkX5_number_0 11 rfl)

abbrev tr_d_X5_readMust_2 (ta : Nat) (z1 : Int) (z11 : Int) (z : Int) (u : St) (z22 : Int) (A24 : St) : Prop := ((IK A24) ∧ ((-2147483648 ≤ z22 ∧ z22 ≤ 2147483647) ∧ (((z22 = (-1)) ∧ (z = 0 ∧ u = A24)) ∨ ((¬ z22 = (-1)) ∧ (∃ z28 : Int, ∃ A29 : St, q_X9_addMust ta z1 z11 z22 A24 z28 A29 ∧ (((z28 = 0) ∧ (z = 0 ∧ u = A29)) ∨ ((¬ z28 = 0) ∧ (z = 1 ∧ u = A29))))))))
def d_X5_readMust_2 (ta : Nat) (z1 : Int) (z11 : Int) (z : Int) (u : St) (z22 : Int) (A24 : St) : Prop := tr_d_X5_readMust_2 ta z1 z11 z u z22 A24
theorem u_d_X5_readMust_2 {ta : Nat} {z1 : Int} {z11 : Int} {z : Int} {u : St} {z22 : Int} {A24 : St} (h : tr_d_X5_readMust_2 ta z1 z11 z u z22 A24) : d_X5_readMust_2 ta z1 z11 z u z22 A24 := h
abbrev tr_d_X5_readMust_1 (ta : Nat) (z1 : Int) (z : Int) (u : St) (z11 : Int) (A13 : St) : Prop := ((IK A13) ∧ ((-2147483648 ≤ z11 ∧ z11 ≤ 2147483647) ∧ (((¬ z11 = (-1)) ∧ (∃ z18 : Int, ∃ A19 : St, q_X5_number z11 1439 A13 z18 A19 ∧ (d_X5_readMust_2 ta z1 z11 z u z18 A19))) ∨ ((z11 = (-1)) ∧ (d_X5_readMust_2 ta z1 z11 z u (-1) A13)))))
def d_X5_readMust_1 (ta : Nat) (z1 : Int) (z : Int) (u : St) (z11 : Int) (A13 : St) : Prop := tr_d_X5_readMust_1 ta z1 z u z11 A13
theorem u_d_X5_readMust_1 {ta : Nat} {z1 : Int} {z : Int} {u : St} {z11 : Int} {A13 : St} (h : tr_d_X5_readMust_1 ta z1 z u z11 A13) : d_X5_readMust_1 ta z1 z u z11 A13 := h
abbrev tr_r_X5_readMust (ta : Nat) (A : St) (z : Int) (u : St) : Prop := (∃ z1 : Int, ∃ A2 : St, q_X5_asked_2_1 ta A z1 A2 ∧ (((¬ z1 = (-1)) ∧ (∃ z7 : Int, ∃ A8 : St, q_X5_number 0 1439 A2 z7 A8 ∧ (d_X5_readMust_1 ta z1 z u z7 A8))) ∨ ((z1 = (-1)) ∧ (d_X5_readMust_1 ta z1 z u (-1) A2))))
def r_X5_readMust (ta : Nat) (A : St) (z : Int) (u : St) : Prop := tr_r_X5_readMust ta A z u
theorem u_r_X5_readMust {ta : Nat} {A : St} {z : Int} {u : St} (h : tr_r_X5_readMust ta A z u) : r_X5_readMust ta A z u := h
def q_X5_readMust (ta : Nat) (A : St) (z : Int) (u : St) : Prop := r_X5_readMust ta A z u ∧ IK u ∧ fk [52, 64, 65, 66, 83, 95, 96, 97] [(3, 2), (3, 3), (5, 1), (5, 2), (5, 3), (5, 4), (5, 5), (5, 6)] A u ∧ (0 ≤ z ∧ z ≤ 1)
def ws_kc_X5_readMust : List Cond := .code yX5_readMust cX5_readMust 5 (some .boolean) :: WY
set_option maxHeartbeats 4000000 in
set_option maxRecDepth 100000 in
theorem kc_X5_readMust (l : Launch) (dC : Nat → ClassId) (dI : Nat → Nat → Nat) (cB cI cJ cZ cQ : ClassId) (aL aS : Nat) (q : Nat → Nat) (A : St) (ta : Nat) (hI : IK A) (hta : isT ta) : KMi l yX5_readMust ws_kc_X5_readMust ({ frames := 4, cells := 0, slots := 0, locals := 89 } : Room) aL aS (dC, dI) (tyA cB cI cJ cZ cQ) (WK cB cI cJ cZ cQ q) A [.ref (q 3), .ref (q ta)] (fun z u => r_X5_readMust ta A z u ∧ IK u ∧ fk [52, 64, 65, 66, 83, 95, 96, 97] [(3, 2), (3, 3), (5, 1), (5, 2), (5, 3), (5, 4), (5, 5), (5, 6)] A u ∧ (0 ≤ z ∧ z ≤ 1)) := by
  refine k_metz (cc := cX5_readMust) (maxL := 5) WK_adr (plainFor_of_name (by decide +kernel)) rfl (Nat.le_of_ble_eq_true rfl) (fun z u h => h.2.2.2) (fun p e s m below meth c Q AS ls hx hb hml hown hts hK hDD hA0 hE RET H locs hP hS hl => ?_)
  have hown : s.vm.findClass RX5 = some m.cls := hown
  have hl : lv_has ls 5 [(0, .ref (q 3)), (1, .ref (q ta))] := hl
  refine lv_aload_n hx hb (dk_at dkX5_readMust_0 0 rfl) rfl (lv_at hl 0 rfl) ?_
  refine lv_aload_n hx hb (dk_at dkX5_readMust_0 1 rfl) rfl (lv_at hl 1 rfl) ?_
  refine lv_iconst (v := iI 1) hx hb (dk_at dkX5_readMust_0 2 rfl) (by decide +kernel) ?_
  refine k_calli (As := [.ref (q ta), .int (iI 1)]) (rest := []) ⟨hx, hb, hml, hown, hts⟩ hE (kc_X5_asked_2_1 l dC dI cB cI cJ cZ cQ aL aS q _ ta hI hta) (cwV 2 hts (goodVk wkq_6_6 wkq_6_7 wkq_6_8 wkq_5_28 wkq_6_9) rfl rfl rfl (by decide +kernel) ⟨Nat.le_of_ble_eq_true rfl, Nat.le_of_ble_eq_true rfl⟩) hK hDD hA0 hP hS 3 5 (wkRD) rfl rfl hl.1 (Nat.le_of_ble_eq_true rfl) (dk_at dkX5_readMust_0 3 rfl) (fun z1 A2 H locs hw3 hP hS => ?_)
  have ghw3 : q_X5_asked_2_1 ta A z1 A2 := hw3
  obtain ⟨_, hI, hf4, hw3⟩ := hw3
  refine lv_istore_n (lv' := [(2, .int (iI z1)), (0, .ref (q 3)), (1, .ref (q ta))]) hx hb (dk_at dkX5_readMust_0 4 rfl) rfl hl (by decide) rfl (fun ls hl => ?_)
  refine lv_iload_n hx hb (dk_at dkX5_readMust_0 5 rfl) rfl (lv_at hl 0 rfl) ?_
  refine lv_iconst (v := iI (-1)) hx hb (dk_at dkX5_readMust_0 6 rfl) (by decide +kernel) ?_
  have J24_6 : ∀ (z11 : Int) (A13 : St) (H : Heap) (locs : List Loc) (ls : Array Slot), (-2147483648 ≤ z11 ∧ z11 ≤ 2147483647) → (∀ (z : Int) (u : St), (d_X5_readMust_1 ta z1 z u z11 A13) → r_X5_readMust ta A z u) → IK A13 → fk [] [(3, 2), (3, 3), (5, 1), (5, 2), (5, 3), (5, 4), (5, 5), (5, 6)] A2 A13 → va_P (dC, dI) vwCl (WK cB cI cJ cZ cQ q A13) H → va_S AS s.heap H locs → lv_has ls 5 [(2, .int (iI z1)), (0, .ref (q 3)), (1, .ref (q ta))] → W p l e (headSpec ws_kc_X5_readMust ({ frames := 4, cells := 0, slots := 0, locals := 89 } : Room)).room s m [.ref (q 3), .ref (q ta)].toArray below meth c H locs 0 0 Q (F0 m 24 ls [.int (iI z11)]) := by
    intro z11 A13 H locs ls f14 hk1 hI hj12 hP hS hl
    have gI15 : Hd (IK A13) := Hd.mk hI
    refine lv_istore_n (lv' := [(3, .int (iI z11)), (2, .int (iI z1)), (0, .ref (q 3)), (1, .ref (q ta))]) hx hb (dk_at dkX5_readMust_0 14 rfl) rfl hl (by decide) rfl (fun ls hl => ?_)
    refine lv_iload_n hx hb (dk_at dkX5_readMust_0 15 rfl) rfl (lv_at hl 0 rfl) ?_
    refine lv_iconst (v := iI (-1)) hx hb (dk_at dkX5_readMust_1 0 rfl) (by decide +kernel) ?_
    have J42_17 : ∀ (z22 : Int) (A24 : St) (H : Heap) (locs : List Loc) (ls : Array Slot), (-2147483648 ≤ z22 ∧ z22 ≤ 2147483647) → (∀ (z : Int) (u : St), (d_X5_readMust_2 ta z1 z11 z u z22 A24) → r_X5_readMust ta A z u) → IK A24 → fk [] [(3, 2), (3, 3), (5, 1), (5, 2), (5, 3), (5, 4), (5, 5), (5, 6)] A13 A24 → va_P (dC, dI) vwCl (WK cB cI cJ cZ cQ q A24) H → va_S AS s.heap H locs → lv_has ls 5 [(3, .int (iI z11)), (2, .int (iI z1)), (0, .ref (q 3)), (1, .ref (q ta))] → W p l e (headSpec ws_kc_X5_readMust ({ frames := 4, cells := 0, slots := 0, locals := 89 } : Room)).room s m [.ref (q 3), .ref (q ta)].toArray below meth c H locs 0 0 Q (F0 m 42 ls [.int (iI z22)]) := by
      intro z22 A24 H locs ls f25 hk2 hI hj23 hP hS hl
      have gI26 : Hd (IK A24) := Hd.mk hI
      refine lv_istore (lv' := [(4, .int (iI z22)), (3, .int (iI z11)), (2, .int (iI z1)), (0, .ref (q 3)), (1, .ref (q ta))]) hx hb (dk_at dkX5_readMust_1 8 rfl) hl (by decide) rfl (fun ls hl => ?_)
      refine lv_iload hx hb (dk_at dkX5_readMust_1 9 rfl) (lv_at hl 0 rfl) ?_
      refine lv_iconst (v := iI (-1)) hx hb (dk_at dkX5_readMust_1 10 rfl) (by decide +kernel) ?_
      refine lv_icmp_eq (tgt := 65) hx hb (dk_at dkX5_readMust_1 11 rfl) (by decide) (fun c27 => ?_) (fun c27 => ?_)
      · have c27 : z22 = (-1) := (i_eq f25 ⟨by decide, by decide⟩).mp c27
        refine lv_iconst (v := iI 0) hx hb (dk_at dkX5_readMust_2 4 rfl) (by decide +kernel) ?_
        exact RET 0 _ _ _ _ _ ⟨hk2 _ _ (u_d_X5_readMust_2 ⟨gI26.out, ⟨f25, (Or.inl ⟨c27, ⟨rfl, rfl⟩⟩)⟩⟩), hI, fk.trans (fk.trans (fk.trans (fk.rf) hf4 rfl rfl) hj12 rfl rfl) hj23 rfl rfl, ⟨by decide, by decide⟩⟩ hP hS (dk_at dkX5_readMust_2 5 rfl)
      · have c27 : ¬ z22 = (-1) := mt (i_eq f25 ⟨by decide, by decide⟩).mpr c27
        refine lv_aload_n hx hb (dk_at dkX5_readMust_1 12 rfl) rfl (lv_at hl 4 rfl) ?_
        refine lv_iload_n hx hb (dk_at dkX5_readMust_1 13 rfl) rfl (lv_at hl 2 rfl) ?_
        refine lv_iload_n hx hb (dk_at dkX5_readMust_1 14 rfl) rfl (lv_at hl 1 rfl) ?_
        refine lv_iload hx hb (dk_at dkX5_readMust_1 15 rfl) (lv_at hl 0 rfl) ?_
        refine k_calli (As := [.int (iI z1), .int (iI z11), .int (iI z22)]) (rest := []) ⟨hx, hb, hml, hown, hts⟩ hE (kc_X9_addMust l dC dI cB cI cJ cZ cQ aL aS q _ ta z1 z11 z22 hI hta (rb hw3 (by decide) (by decide)) f14 f25) (cwV 3 hts (goodVk wkq_7_12 wkq_7_13 wkq_7_14 wkq_0_6 wkq_7_15) rfl rfl rfl (by decide +kernel) ⟨Nat.le_of_ble_eq_true rfl, Nat.le_of_ble_eq_true rfl⟩) hK hDD hA0 hP hS ta 9 (wkT hta) rfl rfl hl.1 (Nat.le_of_ble_eq_true rfl) (dk_at dkX5_readMust_2 0 rfl) (fun z28 A29 H locs hw30 hP hS => ?_)
        have ghw30 : q_X9_addMust ta z1 z11 z22 A24 z28 A29 := hw30
        obtain ⟨_, hI, hf31, hw30⟩ := hw30
        refine lv_if_eq (tgt := 65) hx hb (dk_at dkX5_readMust_2 1 rfl) (by decide) (fun c32 => ?_) (fun c32 => ?_)
        · have c32 : z28 = 0 := (i_eq0 (rb hw30 (by decide) (by decide))).mp c32
          refine lv_iconst (v := iI 0) hx hb (dk_at dkX5_readMust_2 4 rfl) (by decide +kernel) ?_
          exact RET 0 _ _ _ _ _ ⟨hk2 _ _ (u_d_X5_readMust_2 ⟨gI26.out, ⟨f25, (Or.inr ⟨c27, ⟨z28, A29, ghw30, (Or.inl ⟨c32, ⟨rfl, rfl⟩⟩)⟩⟩)⟩⟩), hI, fk.trans (fk.trans (fk.trans (fk.trans (fk.rf) hf4 rfl rfl) hj12 rfl rfl) hj23 rfl rfl) hf31 rfl rfl, ⟨by decide, by decide⟩⟩ hP hS (dk_at dkX5_readMust_2 5 rfl)
        · have c32 : ¬ z28 = 0 := mt (i_eq0 (rb hw30 (by decide) (by decide))).mpr c32
          refine lv_iconst (v := iI 1) hx hb (dk_at dkX5_readMust_2 2 rfl) (by decide +kernel) ?_
          refine lv_goto (tgt := 66) hx hb (dk_at dkX5_readMust_2 3 rfl) (by decide) ?_
          exact RET 1 _ _ _ _ _ ⟨hk2 _ _ (u_d_X5_readMust_2 ⟨gI26.out, ⟨f25, (Or.inr ⟨c27, ⟨z28, A29, ghw30, (Or.inr ⟨c32, ⟨rfl, rfl⟩⟩)⟩⟩)⟩⟩), hI, fk.trans (fk.trans (fk.trans (fk.trans (fk.rf) hf4 rfl rfl) hj12 rfl rfl) hj23 rfl rfl) hf31 rfl rfl, ⟨by decide, by decide⟩⟩ hP hS (dk_at dkX5_readMust_2 5 rfl)
    refine lv_icmp_ne (tgt := 34) hx hb (dk_at dkX5_readMust_1 1 rfl) (by decide) (fun c16 => ?_) (fun c16 => ?_)
    · have c16 : ¬ z11 = (-1) := mt (i_eq f14 ⟨by decide, by decide⟩).mpr c16
      refine lv_aload_n hx hb (dk_at dkX5_readMust_1 4 rfl) rfl (lv_at hl 2 rfl) ?_
      refine lv_iload_n hx hb (dk_at dkX5_readMust_1 5 rfl) rfl (lv_at hl 0 rfl) ?_
      refine lv_sipush (v := iI 1439) hx hb (dk_at dkX5_readMust_1 6 rfl) (by decide +kernel) ?_
      refine k_calli (As := [.int (iI z11), .int (iI 1439)]) (rest := []) ⟨hx, hb, hml, hown, hts⟩ hE (kc_X5_number l dC dI cB cI cJ cZ cQ aL aS q _ z11 1439 hI f14 ⟨by decide, by decide⟩) (cwV 2 hts (goodVk wkq_6_10 wkq_6_11 wkq_6_12 wkq_5_28 wkq_6_13) rfl rfl rfl (by decide +kernel) ⟨Nat.le_of_ble_eq_true rfl, Nat.le_of_ble_eq_true rfl⟩) hK hDD hA0 hP hS 3 5 (wkRD) rfl rfl hl.1 (Nat.le_of_ble_eq_true rfl) (dk_at dkX5_readMust_1 7 rfl) (fun z18 A19 H locs hw20 hP hS => ?_)
      have ghw20 : q_X5_number z11 1439 A13 z18 A19 := hw20
      obtain ⟨_, hI, hf21, hw20⟩ := hw20
      exact J42_17 z18 _ _ _ _ (by omega) (fun zq uq hq => hk1 _ _ (u_d_X5_readMust_1 ⟨gI15.out, ⟨f14, (Or.inl ⟨c16, ⟨z18, A19, ghw20, hq⟩⟩)⟩⟩)) hI (fk.trans (fk.rf) hf21 rfl rfl) hP hS (lv_sub hl [0, 1, 2, 3] rfl)
    · have c16 : z11 = (-1) := (i_eq f14 ⟨by decide, by decide⟩).mp c16
      refine lv_iconst (v := iI (-1)) hx hb (dk_at dkX5_readMust_1 2 rfl) (by decide +kernel) ?_
      refine lv_goto (tgt := 42) hx hb (dk_at dkX5_readMust_1 3 rfl) (by decide) ?_
      exact J42_17 (-1) _ _ _ _ (by omega) (fun zq uq hq => hk1 _ _ (u_d_X5_readMust_1 ⟨gI15.out, ⟨f14, (Or.inr ⟨c16, hq⟩)⟩⟩)) hI (fk.rf) hP hS (lv_sub hl [0, 1, 2, 3] rfl)
  refine lv_icmp_ne (tgt := 16) hx hb (dk_at dkX5_readMust_0 7 rfl) (by decide) (fun c5 => ?_) (fun c5 => ?_)
  · have c5 : ¬ z1 = (-1) := mt (i_eq (rb hw3 (by decide) (by decide)) ⟨by decide, by decide⟩).mpr c5
    refine lv_aload_n hx hb (dk_at dkX5_readMust_0 10 rfl) rfl (lv_at hl 1 rfl) ?_
    refine lv_iconst (v := iI 0) hx hb (dk_at dkX5_readMust_0 11 rfl) (by decide +kernel) ?_
    refine lv_sipush (v := iI 1439) hx hb (dk_at dkX5_readMust_0 12 rfl) (by decide +kernel) ?_
    refine k_calli (As := [.int (iI 0), .int (iI 1439)]) (rest := []) ⟨hx, hb, hml, hown, hts⟩ hE (kc_X5_number l dC dI cB cI cJ cZ cQ aL aS q _ 0 1439 hI ⟨by decide, by decide⟩ ⟨by decide, by decide⟩) (cwV 2 hts (goodVk wkq_6_10 wkq_6_11 wkq_6_12 wkq_5_28 wkq_6_13) rfl rfl rfl (by decide +kernel) ⟨Nat.le_of_ble_eq_true rfl, Nat.le_of_ble_eq_true rfl⟩) hK hDD hA0 hP hS 3 5 (wkRD) rfl rfl hl.1 (Nat.le_of_ble_eq_true rfl) (dk_at dkX5_readMust_0 13 rfl) (fun z7 A8 H locs hw9 hP hS => ?_)
    have ghw9 : q_X5_number 0 1439 A2 z7 A8 := hw9
    obtain ⟨_, hI, hf10, hw9⟩ := hw9
    exact J24_6 z7 _ _ _ _ (by omega) (fun zq uq hq => (u_r_X5_readMust ⟨z1, A2, ghw3, (Or.inl ⟨c5, ⟨z7, A8, ghw9, hq⟩⟩)⟩)) hI (fk.trans (fk.rf) hf10 rfl rfl) hP hS (lv_sub hl [0, 1, 2] rfl)
  · have c5 : z1 = (-1) := (i_eq (rb hw3 (by decide) (by decide)) ⟨by decide, by decide⟩).mp c5
    refine lv_iconst (v := iI (-1)) hx hb (dk_at dkX5_readMust_0 8 rfl) (by decide +kernel) ?_
    refine lv_goto (tgt := 24) hx hb (dk_at dkX5_readMust_0 9 rfl) (by decide) ?_
    exact J24_6 (-1) _ _ _ _ (by omega) (fun zq uq hq => (u_r_X5_readMust ⟨z1, A2, ghw3, (Or.inr ⟨c5, hq⟩)⟩)) hI (fk.rf) hP hS (lv_sub hl [0, 1, 2] rfl)

abbrev tr_r_X5_readWants (ta : Nat) (A : St) (z : Int) (u : St) : Prop := (∃ z1 : Int, ∃ A2 : St, q_X5_asked_2_3 ta A z1 A2 ∧ (((¬ z1 = (-1)) ∧ (∃ z7 : Int, z7 = A2 (ta + 12) (z1).toNat ∧ (∃ z8 : Int, q_J6_bitCount_0f7a4 z7 A2 z8 ∧ (((z8 < 2) ∧ (∃ z12 : Int, ∃ A13 : St, q_X5_asked_2_4 ta A2 z12 A13 ∧ (((¬ z12 = (-1)) ∧ (∃ z19 : Int, z19 = oShr z7 z12 ∧ (∃ z20 : Int, z20 = oAnd z19 1 ∧ (((z20 = 0) ∧ (∃ z23 : Int, z23 = oShl 1 z12 ∧ (∃ z24 : Int, z24 = oOr z7 z23 ∧ (∃ A25 : St, A25 = stA A13 (ta + 12) (z1).toNat z24 ∧ (∃ z29 : Int, z29 = A25 (ta + 1) (5 : Int).toNat ∧ (∃ A30 : St, A30 = stA A25 (ta + 1) (5 : Int).toNat (z29 + 1) ∧ (z = 1 ∧ u = A30))))))) ∨ ((¬ z20 = 0) ∧ (∃ z31 : Int, ∃ A32 : St, q_X5_bad 3 A13 z31 A32 ∧ (z = z31 ∧ u = A32))))))) ∨ ((z12 = (-1)) ∧ (z = 0 ∧ u = A13))))) ∨ ((¬ z8 < 2) ∧ (∃ z35 : Int, ∃ A36 : St, q_X5_bad 3 A2 z35 A36 ∧ (z = z35 ∧ u = A36))))))) ∨ ((z1 = (-1)) ∧ (z = 0 ∧ u = A2))))
def r_X5_readWants (ta : Nat) (A : St) (z : Int) (u : St) : Prop := tr_r_X5_readWants ta A z u
theorem u_r_X5_readWants {ta : Nat} {A : St} {z : Int} {u : St} (h : tr_r_X5_readWants ta A z u) : r_X5_readWants ta A z u := h
def q_X5_readWants (ta : Nat) (A : St) (z : Int) (u : St) : Prop := r_X5_readWants ta A z u ∧ IK u ∧ fk [52, 63, 83, 94] [(3, 2), (3, 3), (5, 1), (5, 2), (5, 3), (5, 4), (5, 5), (5, 6)] A u ∧ (0 ≤ z ∧ z ≤ 1)
def ws_kc_X5_readWants : List Cond := .code yX5_readWants cX5_readWants 4 (some .boolean) :: WY
set_option maxHeartbeats 4000000 in
set_option maxRecDepth 100000 in
theorem kc_X5_readWants (l : Launch) (dC : Nat → ClassId) (dI : Nat → Nat → Nat) (cB cI cJ cZ cQ : ClassId) (aL aS : Nat) (q : Nat → Nat) (A : St) (ta : Nat) (hI : IK A) (hta : isT ta) (hp0 : A (ta + 1) (5 : Int).toNat < 6) : KMi l yX5_readWants ws_kc_X5_readWants ({ frames := 4, cells := 0, slots := 0, locals := 89 } : Room) aL aS (dC, dI) (tyA cB cI cJ cZ cQ) (WK cB cI cJ cZ cQ q) A [.ref (q 3), .ref (q ta)] (fun z u => r_X5_readWants ta A z u ∧ IK u ∧ fk [52, 63, 83, 94] [(3, 2), (3, 3), (5, 1), (5, 2), (5, 3), (5, 4), (5, 5), (5, 6)] A u ∧ (0 ≤ z ∧ z ≤ 1)) := by
  refine k_metz (cc := cX5_readWants) (maxL := 4) WK_adr (plainFor_of_name (by decide +kernel)) rfl (Nat.le_of_ble_eq_true rfl) (fun z u h => h.2.2.2) (fun p e s m below meth c Q AS ls hx hb hml hown hts hK hDD hA0 hE RET H locs hP hS hl => ?_)
  have hown : s.vm.findClass RX5 = some m.cls := hown
  have hl : lv_has ls 4 [(0, .ref (q 3)), (1, .ref (q ta))] := hl
  have hiX9 : ∀ w ∈ u_ws RX9 TX9 16, w ∈ ws_kc_X5_readWants := fun w h => List.mem_cons_of_mem _ (wy_layX9 w h)
  refine lv_aload_n hx hb (dk_at dkX5_readWants_0 0 rfl) rfl (lv_at hl 0 rfl) ?_
  refine lv_aload_n hx hb (dk_at dkX5_readWants_0 1 rfl) rfl (lv_at hl 1 rfl) ?_
  refine lv_iconst (v := iI 3) hx hb (dk_at dkX5_readWants_0 2 rfl) (by decide +kernel) ?_
  refine k_calli (As := [.ref (q ta), .int (iI 3)]) (rest := []) ⟨hx, hb, hml, hown, hts⟩ hE (kc_X5_asked_2_3 l dC dI cB cI cJ cZ cQ aL aS q _ ta hI hta) (cwV 2 hts (goodVk wkq_6_6 wkq_6_7 wkq_6_8 wkq_5_28 wkq_6_9) rfl rfl rfl (by decide +kernel) ⟨Nat.le_of_ble_eq_true rfl, Nat.le_of_ble_eq_true rfl⟩) hK hDD hA0 hP hS 3 5 (wkRD) rfl rfl hl.1 (Nat.le_of_ble_eq_true rfl) (dk_at dkX5_readWants_0 3 rfl) (fun z1 A2 H locs hw3 hP hS => ?_)
  have ghw3 : q_X5_asked_2_3 ta A z1 A2 := hw3
  obtain ⟨_, hI, hf4, hw3⟩ := hw3
  refine lv_istore_n (lv' := [(2, .int (iI z1)), (0, .ref (q 3)), (1, .ref (q ta))]) hx hb (dk_at dkX5_readWants_0 4 rfl) rfl hl (by decide) rfl (fun ls hl => ?_)
  refine lv_iload_n hx hb (dk_at dkX5_readWants_0 5 rfl) rfl (lv_at hl 0 rfl) ?_
  refine lv_iconst (v := iI (-1)) hx hb (dk_at dkX5_readWants_0 6 rfl) (by decide +kernel) ?_
  refine lv_icmp_ne (tgt := 14) hx hb (dk_at dkX5_readWants_0 7 rfl) (by decide) (fun c5 => ?_) (fun c5 => ?_)
  · have c5 : ¬ z1 = (-1) := mt (i_eq (rb hw3 (by decide) (by decide)) ⟨by decide, by decide⟩).mpr c5
    refine lv_aload_n hx hb (dk_at dkX5_readWants_0 10 rfl) rfl (lv_at hl 2 rfl) ?_
    refine va_get (D := (dC, dI)) (ci := 9) (v := .ref (q (ta + 12))) (C := RX9) (T := TX9) (N := 16) hx hb hts hiX9 hown hK hP ta (wkT hta) rfl 6 (by decide) (hts _ (List.mem_cons_of_mem _ wkq_7_6)) (fun _ h9 => h9) rfl (dk_at dkX5_readWants_0 11 rfl) ?_
    refine lv_iload_n hx hb (dk_at dkX5_readWants_0 12 rfl) rfl (lv_at hl 0 rfl) ?_
    have a6 : ∀ k, A2 (ta + 12) k = A (ta + 12) k := fun k => hf4 (ta + 12) k (isT.b2 (o := fun b => List.contains [] (b + 12)) hta rfl rfl) (isT.b2 (o := fun b => fin2 [(3, 2), (3, 3), (5, 1), (5, 2), (5, 3), (5, 4), (5, 5), (5, 6)] (b + 12) k) hta rfl rfl)
    refine x_iald (Wf := WK cB cI cJ cZ cQ q) hx hb hK hP (ta + 12) 1 (wkTw hta) rfl (by omega) (by decide) (dk_at dkX5_readWants_0 13 rfl) (fun z7 hz7 => ?_)
    have rz7 : (-2147483648 : Int) ≤ z7 ∧ z7 ≤ 2147483647 := by rw [hz7]; exact irTw hta hI
    have gz7 := Hd.mk hz7
    have hz7 : z7 = A (ta + 12) (z1).toNat := hz7.trans (a6 _)
    refine k_callSi (As := [.int (iI z7)]) (rest := []) ⟨hx, hb, hml, hown, hts⟩ hE (kc_J6_bitCount_0f7a4 l dC dI cB cI cJ cZ cQ aL aS q _ z7 hI rz7) (va_cwS 1 hts (goodSk wkq_7_7 wkq_1_17 wkq_1_18 wkq_1_19) rfl rfl rfl (by decide +kernel) ⟨Nat.le_of_ble_eq_true rfl, Nat.le_of_ble_eq_true rfl⟩) hK hDD hA0 hP hS rfl hl.1 (Nat.le_of_ble_eq_true rfl) (dk_at dkX5_readWants_0 14 rfl) (fun z8 A9 H locs hw10 hP hS => ?_)
    obtain ⟨rfl, hw10⟩ := hw10
    have ghw10 : q_J6_bitCount_0f7a4 z7 A2 z8 := hw10
    have hw10 := hw10.2
    refine lv_iconst (v := iI 2) hx hb (dk_at dkX5_readWants_0 15 rfl) (by decide +kernel) ?_
    refine lv_icmp_lt (tgt := 33) hx hb (dk_at dkX5_readWants_1 0 rfl) (by decide) (fun c11 => ?_) (fun c11 => ?_)
    · have c11 : z8 < 2 := (i_lt (rb hw10 (by decide) (by decide)) ⟨by decide, by decide⟩).mp c11
      refine lv_aload_n hx hb (dk_at dkX5_readWants_1 5 rfl) rfl (lv_at hl 1 rfl) ?_
      refine lv_aload_n hx hb (dk_at dkX5_readWants_1 6 rfl) rfl (lv_at hl 2 rfl) ?_
      refine lv_iconst (v := iI 4) hx hb (dk_at dkX5_readWants_1 7 rfl) (by decide +kernel) ?_
      refine k_calli (As := [.ref (q ta), .int (iI 4)]) (rest := []) ⟨hx, hb, hml, hown, hts⟩ hE (kc_X5_asked_2_4 l dC dI cB cI cJ cZ cQ aL aS q _ ta hI hta) (cwV 2 hts (goodVk wkq_6_6 wkq_6_7 wkq_6_8 wkq_5_28 wkq_6_9) rfl rfl rfl (by decide +kernel) ⟨Nat.le_of_ble_eq_true rfl, Nat.le_of_ble_eq_true rfl⟩) hK hDD hA0 hP hS 3 5 (wkRD) rfl rfl hl.1 (Nat.le_of_ble_eq_true rfl) (dk_at dkX5_readWants_1 8 rfl) (fun z12 A13 H locs hw14 hP hS => ?_)
      have ghw14 : q_X5_asked_2_4 ta A2 z12 A13 := hw14
      obtain ⟨_, hI, hf15, hw14⟩ := hw14
      refine lv_istore_n (lv' := [(3, .int (iI z12)), (2, .int (iI z1)), (0, .ref (q 3)), (1, .ref (q ta))]) hx hb (dk_at dkX5_readWants_1 9 rfl) rfl hl (by decide) rfl (fun ls hl => ?_)
      refine lv_iload_n hx hb (dk_at dkX5_readWants_1 10 rfl) rfl (lv_at hl 0 rfl) ?_
      refine lv_iconst (v := iI (-1)) hx hb (dk_at dkX5_readWants_1 11 rfl) (by decide +kernel) ?_
      refine lv_icmp_ne (tgt := 47) hx hb (dk_at dkX5_readWants_1 12 rfl) (by decide) (fun c16 => ?_) (fun c16 => ?_)
      · have c16 : ¬ z12 = (-1) := mt (i_eq (rb hw14 (by decide) (by decide)) ⟨by decide, by decide⟩).mpr c16
        refine lv_aload_n hx hb (dk_at dkX5_readWants_1 15 rfl) rfl (lv_at hl 3 rfl) ?_
        refine va_get (D := (dC, dI)) (ci := 9) (v := .ref (q (ta + 12))) (C := RX9) (T := TX9) (N := 16) hx hb hts hiX9 hown hK hP ta (wkT hta) rfl 6 (by decide) (hts _ (List.mem_cons_of_mem _ wkq_7_6)) (fun _ h9 => h9) rfl (dk_at dkX5_readWants_2 0 rfl) ?_
        refine lv_iload_n hx hb (dk_at dkX5_readWants_2 1 rfl) rfl (lv_at hl 1 rfl) ?_
        have a17 : ∀ k, A13 (ta + 12) k = A (ta + 12) k := fun k => (hf15 (ta + 12) k (isT.b2 (o := fun b => List.contains [] (b + 12)) hta rfl rfl) (isT.b2 (o := fun b => fin2 [(3, 2), (3, 3), (5, 1), (5, 2), (5, 3), (5, 4), (5, 5), (5, 6)] (b + 12) k) hta rfl rfl)).trans (a6 k)
        refine x_iald (Wf := WK cB cI cJ cZ cQ q) hx hb hK hP (ta + 12) 1 (wkTw hta) rfl (by omega) (by decide) (dk_at dkX5_readWants_2 2 rfl) (fun z18 hz18 => ?_)
        have rz18 : (-2147483648 : Int) ≤ z18 ∧ z18 ≤ 2147483647 := by rw [hz18]; exact irTw hta hI
        have gz18 := Hd.mk hz18
        have hz18 : z18 = A (ta + 12) (z1).toNat := hz18.trans (a17 _)
        have ez18 : z18 = z7 := hz18.trans hz7.symm
        refine tp_i (y := iI z7) (congrArg iI ez18) ?_
        refine lv_iload_n hx hb (dk_at dkX5_readWants_2 3 rfl) rfl (lv_at hl 0 rfl) ?_
        refine lv_ishr hx hb (dk_at dkX5_readWants_2 4 rfl) ?_
        refine x_absE (fun z19 gz19 hz19 => ?_)
        refine lv_iconst (v := iI 1) hx hb (dk_at dkX5_readWants_2 5 rfl) (by decide +kernel) ?_
        refine lv_iand hx hb (dk_at dkX5_readWants_2 6 rfl) ?_
        refine x_andE (b := 1) (by omega) (fun z20 gz20 hz20 => ?_)
        refine lv_if_eq (tgt := 66) hx hb (dk_at dkX5_readWants_2 7 rfl) (by decide) (fun c21 => ?_) (fun c21 => ?_)
        · have c21 : z20 = 0 := (i_eq0 (by omega)).mp c21
          refine lv_aload_n hx hb (dk_at dkX5_readWants_2 12 rfl) rfl (lv_at hl 3 rfl) ?_
          refine va_get (D := (dC, dI)) (ci := 9) (v := .ref (q (ta + 12))) (C := RX9) (T := TX9) (N := 16) hx hb hts hiX9 hown hK hP ta (wkT hta) rfl 6 (by decide) (hts _ (List.mem_cons_of_mem _ wkq_7_6)) (fun _ h9 => h9) rfl (dk_at dkX5_readWants_2 13 rfl) ?_
          refine lv_iload_n hx hb (dk_at dkX5_readWants_2 14 rfl) rfl (lv_at hl 1 rfl) ?_
          refine lv_dup2_11 hx hb (dk_at dkX5_readWants_2 15 rfl) rfl rfl ?_
          refine x_iald (Wf := WK cB cI cJ cZ cQ q) hx hb hK hP (ta + 12) 1 (wkTw hta) rfl (by omega) (by decide) (dk_at dkX5_readWants_3 0 rfl) (fun z22 hz22 => ?_)
          have rz22 : (-2147483648 : Int) ≤ z22 ∧ z22 ≤ 2147483647 := by rw [hz22]; exact irTw hta hI
          have gz22 := Hd.mk hz22
          have hz22 : z22 = A (ta + 12) (z1).toNat := hz22.trans (a17 _)
          have ez22 : z22 = z7 := hz22.trans hz7.symm
          refine tp_i (y := iI z7) (congrArg iI ez22) ?_
          refine lv_iconst (v := iI 1) hx hb (dk_at dkX5_readWants_3 1 rfl) (by decide +kernel) ?_
          refine lv_iload_n hx hb (dk_at dkX5_readWants_3 2 rfl) rfl (lv_at hl 0 rfl) ?_
          refine lv_ishl hx hb (dk_at dkX5_readWants_3 3 rfl) ?_
          refine x_absE (fun z23 gz23 hz23 => ?_)
          refine lv_ior hx hb (dk_at dkX5_readWants_3 4 rfl) ?_
          refine x_absE (fun z24 gz24 hz24 => ?_)
          refine k_iast (Wf := WK cB cI cJ cZ cQ q) hx hb hK hP hDD hS (ta + 12) 1 (wkTw hta) rfl (by omega) (by decide) (dk_at dkX5_readWants_3 5 rfl) (wsTw hta) (fun H locs A25 hA25 hP hS => ?_)
          have hI := isTw hta hA25 hI (show (-2147483648 : Int) ≤ z24 ∧ z24 ≤ 2147483647 from hz24)
          refine lv_aload_n hx hb (dk_at dkX5_readWants_3 6 rfl) rfl (lv_at hl 3 rfl) ?_
          refine va_get (D := (dC, dI)) (ci := 9) (v := .ref (q (ta + 1))) (C := RX9) (T := TX9) (N := 16) hx hb hts hiX9 hown hK hP ta (wkT hta) rfl 0 (by decide) (hts _ (List.mem_cons_of_mem _ wkq_5_32)) (fun _ h9 => h9) rfl (dk_at dkX5_readWants_3 7 rfl) ?_
          refine lv_iconst (v := iI 5) hx hb (dk_at dkX5_readWants_3 8 rfl) (by decide +kernel) ?_
          refine lv_dup2_11 hx hb (dk_at dkX5_readWants_3 9 rfl) rfl rfl ?_
          have a28 : ∀ k, A2 (ta + 1) k = A (ta + 1) k := fun k => hf4 (ta + 1) k (isT.b2 (o := fun b => List.contains [] (b + 1)) hta rfl rfl) (isT.b2 (o := fun b => fin2 [(3, 2), (3, 3), (5, 1), (5, 2), (5, 3), (5, 4), (5, 5), (5, 6)] (b + 1) k) hta rfl rfl)
          have a27 : ∀ k, A13 (ta + 1) k = A (ta + 1) k := fun k => (hf15 (ta + 1) k (isT.b2 (o := fun b => List.contains [] (b + 1)) hta rfl rfl) (isT.b2 (o := fun b => fin2 [(3, 2), (3, 3), (5, 1), (5, 2), (5, 3), (5, 4), (5, 5), (5, 6)] (b + 1) k) hta rfl rfl)).trans (a28 k)
          have a26 : ∀ k, A25 (ta + 1) k = A (ta + 1) k := fun k => (rd_ne hA25 (by omega) k).trans (a27 k)
          refine x_iald (Wf := WK cB cI cJ cZ cQ q) hx hb hK hP (ta + 1) 1 (wkTc hta) rfl (by decide) (by decide) (dk_at dkX5_readWants_3 10 rfl) (fun z29 hz29 => ?_)
          have rz29 : (0 : Int) ≤ z29 ∧ z29 ≤ 6 := by rw [hz29]; exact irTc5 hta hI
          have gz29 := Hd.mk hz29
          have hz29 : z29 = A (ta + 1) (5 : Int).toNat := hz29.trans (a26 _)
          refine lv_iconst (v := iI 1) hx hb (dk_at dkX5_readWants_3 11 rfl) (by decide +kernel) ?_
          refine x_addv (v := z29 + 1) hx hb (dk_at dkX5_readWants_3 12 rfl) (by omega) ?_
          refine k_iast (Wf := WK cB cI cJ cZ cQ q) hx hb hK hP hDD hS (ta + 1) 1 (wkTc hta) rfl (by decide) (by decide) (dk_at dkX5_readWants_3 13 rfl) (wsTc hta) (fun H locs A30 hA30 hP hS => ?_)
          have hI := isTc hta hA30 hI (show (0 : Int) ≤ z29 + 1 ∧ z29 + 1 ≤ 6 from (by omega))
          refine lv_iconst (v := iI 1) hx hb (dk_at dkX5_readWants_3 14 rfl) (by decide +kernel) ?_
          exact RET 1 _ _ _ _ _ ⟨(u_r_X5_readWants ⟨z1, A2, ghw3, (Or.inl ⟨c5, ⟨z7, gz7.out, ⟨z8, ghw10, (Or.inl ⟨c11, ⟨z12, A13, ghw14, (Or.inl ⟨c16, ⟨z19, gz19.out, ⟨z20, gz20.out, (Or.inl ⟨c21, ⟨z23, gz23.out, ⟨z24, gz24.out, ⟨A25, hA25, ⟨z29, gz29.out, ⟨A30, hA30, ⟨rfl, rfl⟩⟩⟩⟩⟩⟩⟩)⟩⟩⟩)⟩⟩)⟩⟩⟩)⟩), hI, fk.da (fk.da (fk.trans (fk.trans (fk.rf) hf4 rfl rfl) hf15 rfl rfl) hA25 (isT.b2 (o := fun b => List.contains [52, 63, 83, 94] (b + 12)) hta rfl rfl)) hA30 (isT.b2 (o := fun b => List.contains [52, 63, 83, 94] (b + 1)) hta rfl rfl), ⟨by decide, by decide⟩⟩ hP hS (dk_at dkX5_readWants_3 15 rfl)
        · have c21 : ¬ z20 = 0 := mt (i_eq0 (by omega)).mpr c21
          refine lv_aload_n hx hb (dk_at dkX5_readWants_2 8 rfl) rfl (lv_at hl 2 rfl) ?_
          refine lv_iconst (v := iI 3) hx hb (dk_at dkX5_readWants_2 9 rfl) (by decide +kernel) ?_
          refine k_calli (As := [.int (iI 3)]) (rest := []) ⟨hx, hb, hml, hown, hts⟩ hE (kc_X5_bad l dC dI cB cI cJ cZ cQ aL aS q _ 3 hI ⟨by decide, by decide⟩) (cwV 1 hts (goodVk wkq_5_37 wkq_5_38 wkq_5_39 wkq_5_28 wkq_5_40) rfl rfl rfl (by decide +kernel) ⟨Nat.le_of_ble_eq_true rfl, Nat.le_of_ble_eq_true rfl⟩) hK hDD hA0 hP hS 3 5 (wkRD) rfl rfl hl.1 (Nat.le_of_ble_eq_true rfl) (dk_at dkX5_readWants_2 10 rfl) (fun z31 A32 H locs hw33 hP hS => ?_)
          have ghw33 : q_X5_bad 3 A13 z31 A32 := hw33
          obtain ⟨_, hI, hf34, hw33⟩ := hw33
          have rz31 : 0 ≤ z31 ∧ z31 ≤ 1 := hw33.1
          have hw33 := hw33.2
          exact RET z31 _ _ _ _ _ ⟨(u_r_X5_readWants ⟨z1, A2, ghw3, (Or.inl ⟨c5, ⟨z7, gz7.out, ⟨z8, ghw10, (Or.inl ⟨c11, ⟨z12, A13, ghw14, (Or.inl ⟨c16, ⟨z19, gz19.out, ⟨z20, gz20.out, (Or.inr ⟨c21, ⟨z31, A32, ghw33, ⟨rfl, rfl⟩⟩⟩)⟩⟩⟩)⟩⟩)⟩⟩⟩)⟩), hI, fk.trans (fk.trans (fk.trans (fk.rf) hf4 rfl rfl) hf15 rfl rfl) hf34 rfl rfl, rz31⟩ hP hS (dk_at dkX5_readWants_2 11 rfl)
      · have c16 : z12 = (-1) := (i_eq (rb hw14 (by decide) (by decide)) ⟨by decide, by decide⟩).mp c16
        refine lv_iconst (v := iI 0) hx hb (dk_at dkX5_readWants_1 13 rfl) (by decide +kernel) ?_
        exact RET 0 _ _ _ _ _ ⟨(u_r_X5_readWants ⟨z1, A2, ghw3, (Or.inl ⟨c5, ⟨z7, gz7.out, ⟨z8, ghw10, (Or.inl ⟨c11, ⟨z12, A13, ghw14, (Or.inr ⟨c16, ⟨rfl, rfl⟩⟩)⟩⟩)⟩⟩⟩)⟩), hI, fk.trans (fk.trans (fk.rf) hf4 rfl rfl) hf15 rfl rfl, ⟨by decide, by decide⟩⟩ hP hS (dk_at dkX5_readWants_1 14 rfl)
    · have c11 : ¬ z8 < 2 := mt (i_lt (rb hw10 (by decide) (by decide)) ⟨by decide, by decide⟩).mpr c11
      refine lv_aload_n hx hb (dk_at dkX5_readWants_1 1 rfl) rfl (lv_at hl 1 rfl) ?_
      refine lv_iconst (v := iI 3) hx hb (dk_at dkX5_readWants_1 2 rfl) (by decide +kernel) ?_
      refine k_calli (As := [.int (iI 3)]) (rest := []) ⟨hx, hb, hml, hown, hts⟩ hE (kc_X5_bad l dC dI cB cI cJ cZ cQ aL aS q _ 3 hI ⟨by decide, by decide⟩) (cwV 1 hts (goodVk wkq_5_37 wkq_5_38 wkq_5_39 wkq_5_28 wkq_5_40) rfl rfl rfl (by decide +kernel) ⟨Nat.le_of_ble_eq_true rfl, Nat.le_of_ble_eq_true rfl⟩) hK hDD hA0 hP hS 3 5 (wkRD) rfl rfl hl.1 (Nat.le_of_ble_eq_true rfl) (dk_at dkX5_readWants_1 3 rfl) (fun z35 A36 H locs hw37 hP hS => ?_)
      have ghw37 : q_X5_bad 3 A2 z35 A36 := hw37
      obtain ⟨_, hI, hf38, hw37⟩ := hw37
      have rz35 : 0 ≤ z35 ∧ z35 ≤ 1 := hw37.1
      have hw37 := hw37.2
      exact RET z35 _ _ _ _ _ ⟨(u_r_X5_readWants ⟨z1, A2, ghw3, (Or.inl ⟨c5, ⟨z7, gz7.out, ⟨z8, ghw10, (Or.inr ⟨c11, ⟨z35, A36, ghw37, ⟨rfl, rfl⟩⟩⟩)⟩⟩⟩)⟩), hI, fk.trans (fk.trans (fk.rf) hf4 rfl rfl) hf38 rfl rfl, rz35⟩ hP hS (dk_at dkX5_readWants_1 4 rfl)
  · have c5 : z1 = (-1) := (i_eq (rb hw3 (by decide) (by decide)) ⟨by decide, by decide⟩).mp c5
    refine lv_iconst (v := iI 0) hx hb (dk_at dkX5_readWants_0 8 rfl) (by decide +kernel) ?_
    exact RET 0 _ _ _ _ _ ⟨(u_r_X5_readWants ⟨z1, A2, ghw3, (Or.inr ⟨c5, ⟨rfl, rfl⟩⟩)⟩), hI, fk.trans (fk.rf) hf4 rfl rfl, ⟨by decide, by decide⟩⟩ hP hS (dk_at dkX5_readWants_0 9 rfl)

abbrev tr_d_X5_newName_1 (ta : Nat) (A2 : St) (A6 : St) (z : Int) (u : St) (K1 : Int → Prop) (z9 : Int) : Prop := ((0 ≤ z9 ∧ z9 ≤ 2147483647) ∧ (((5 ≤ z9) ∧ (z = (A2 5 4) ∧ u = A6)) ∨ ((¬ 5 ≤ z9) ∧ (∃ z20 : Int, q_X9_find ta z9 (A2 5 4) A6 z20 ∧ (((z20 = (-1)) ∧ (K1 (z9 + 1))) ∨ ((¬ z20 = (-1)) ∧ (∃ z24 : Int, ∃ A25 : St, q_X5_none 2 A6 z24 A25 ∧ (z = z24 ∧ u = A25))))))))
def d_X5_newName_1 (ta : Nat) (A2 : St) (A6 : St) (z : Int) (u : St) : Nat → Int → Prop
  | 0, _ => False
  | nn9 + 1, z9 => tr_d_X5_newName_1 ta A2 A6 z u (fun z9 => d_X5_newName_1 ta A2 A6 z u nn9 z9) z9
theorem u_d_X5_newName_1 {ta : Nat} {A2 : St} {A6 : St} {z : Int} {u : St} {nn9 : Nat} {z9 : Int} (h : tr_d_X5_newName_1 ta A2 A6 z u (fun z9 => d_X5_newName_1 ta A2 A6 z u nn9 z9) z9) : d_X5_newName_1 ta A2 A6 z u (nn9 + 1) z9 := h
abbrev tr_r_X5_newName (ta : Nat) (A : St) (z : Int) (u : St) : Prop := (∃ z1 : Int, ∃ A2 : St, q_X5_isNameAhead A z1 A2 ∧ (((¬ z1 = 0) ∧ (∃ A6 : St, q_X3_pass A2 A6 ∧ (∃ nn9 : Nat, d_X5_newName_1 ta A2 A6 z u nn9 0))) ∨ ((z1 = 0) ∧ (∃ z28 : Int, ∃ A29 : St, q_X5_none 1 A2 z28 A29 ∧ (z = z28 ∧ u = A29)))))
def r_X5_newName (ta : Nat) (A : St) (z : Int) (u : St) : Prop := tr_r_X5_newName ta A z u
theorem u_r_X5_newName {ta : Nat} {A : St} {z : Int} {u : St} (h : tr_r_X5_newName ta A z u) : r_X5_newName ta A z u := h
def q_X5_newName (ta : Nat) (A : St) (z : Int) (u : St) : Prop := r_X5_newName ta A z u ∧ IK u ∧ fk [] [(3, 2), (3, 3), (5, 1), (5, 2), (5, 3), (5, 4), (5, 5), (5, 6)] A u ∧ (-2147483648 ≤ z ∧ z ≤ 2147483647)
def ws_kc_X5_newName : List Cond := .code yX5_newName cX5_newName 3 (some .int) :: WY
set_option maxHeartbeats 4000000 in
set_option maxRecDepth 100000 in
theorem kc_X5_newName (l : Launch) (dC : Nat → ClassId) (dI : Nat → Nat → Nat) (cB cI cJ cZ cQ : ClassId) (aL aS : Nat) (q : Nat → Nat) (A : St) (ta : Nat) (hI : IK A) (hta : isT ta) : KMi l yX5_newName ws_kc_X5_newName ({ frames := 3, cells := 0, slots := 0, locals := 66 } : Room) aL aS (dC, dI) (tyA cB cI cJ cZ cQ) (WK cB cI cJ cZ cQ q) A [.ref (q 3), .ref (q ta)] (fun z u => r_X5_newName ta A z u ∧ IK u ∧ fk [] [(3, 2), (3, 3), (5, 1), (5, 2), (5, 3), (5, 4), (5, 5), (5, 6)] A u ∧ (-2147483648 ≤ z ∧ z ≤ 2147483647)) := by
  refine k_meti (cc := cX5_newName) (maxL := 3) WK_adr (plainFor_of_name (by decide +kernel)) rfl (Nat.le_of_ble_eq_true rfl) (fun p e s m below meth c Q AS ls hx hb hml hown hts hK hDD hA0 hE RET H locs hP hS hl => ?_)
  have hown : s.vm.findClass RX5 = some m.cls := hown
  have hl : lv_has ls 3 [(0, .ref (q 3)), (1, .ref (q ta))] := hl
  have hiX5 : ∀ w ∈ u_ws RX5 TX5 5, w ∈ ws_kc_X5_newName := fun w h => List.mem_cons_of_mem _ (wy_layX5 w h)
  have hiX3 : ∀ w ∈ u_ws RX3 TX3 7, w ∈ ws_kc_X5_newName := fun w h => List.mem_cons_of_mem _ (wy_layX3 w h)
  refine lv_aload_n hx hb (dk_at dkX5_newName_0 0 rfl) rfl (lv_at hl 0 rfl) ?_
  refine k_calli (As := []) (rest := []) ⟨hx, hb, hml, hown, hts⟩ hE (kc_X5_isNameAhead l dC dI cB cI cJ cZ cQ aL aS q _ hI) (cwV 0 hts (goodVk wkq_5_49 wkq_5_50 wkq_5_51 wkq_5_28 wkq_5_52) rfl rfl rfl (by decide +kernel) ⟨Nat.le_of_ble_eq_true rfl, Nat.le_of_ble_eq_true rfl⟩) hK hDD hA0 hP hS 3 5 (wkRD) rfl rfl hl.1 (Nat.le_of_ble_eq_true rfl) (dk_at dkX5_newName_0 1 rfl) (fun z1 A2 H locs hw3 hP hS => ?_)
  have ghw3 : q_X5_isNameAhead A z1 A2 := hw3
  obtain ⟨_, hI, hf4, hw3⟩ := hw3
  refine lv_if_ne (tgt := 13) hx hb (dk_at dkX5_newName_0 2 rfl) (by decide) (fun c5 => ?_) (fun c5 => ?_)
  · have c5 : ¬ z1 = 0 := mt (i_eq0 (rb hw3 (by decide) (by decide))).mpr c5
    refine lv_aload_n hx hb (dk_at dkX5_newName_0 7 rfl) rfl (lv_at hl 0 rfl) ?_
    refine va_get (D := (dC, dI)) (ci := 5) (v := .ref (q 5)) (C := RX5) (T := TX5) (N := 5) hx hb hts hiX5 hown hK hP 3 (wkRD) rfl 0 (by decide) (hts _ (List.mem_cons_of_mem _ wkq_5_6)) (fun _ h9 => h9) rfl (dk_at dkX5_newName_0 8 rfl) ?_
    refine k_callv (As := []) (rest := []) ⟨hx, hb, hml, hown, hts⟩ hE (kc_X3_pass l dC dI cB cI cJ cZ cQ aL aS q _ hI) (cwV 0 hts (goodVk wkq_5_42 wkq_5_43 wkq_5_44 wkq_4_10 wkq_3_58) rfl rfl rfl (by decide +kernel) ⟨Nat.le_of_ble_eq_true rfl, Nat.le_of_ble_eq_true rfl⟩) hK hDD hA0 hP hS 5 3 (wkLX) rfl rfl hl.1 (Nat.le_of_ble_eq_true rfl) (dk_at dkX5_newName_0 9 rfl) (fun A6 H locs hw7 hP hS => ?_)
    have ghw7 : q_X3_pass A2 A6 := hw7
    obtain ⟨_, hI, hf8, hw7⟩ := hw7
    clear hw7
    refine lv_iconst (v := iI 0) hx hb (dk_at dkX5_newName_0 10 rfl) (by decide +kernel) ?_
    refine lv_istore_n (lv' := [(2, .int (iI 0)), (0, .ref (q 3)), (1, .ref (q ta))]) hx hb (dk_at dkX5_newName_0 11 rfl) rfl hl (by decide) rfl (fun ls hl => ?_)
    have L22_11 : ∀ (n14 : Nat) (z9 : Int) (H : Heap) (locs : List Loc) (ls : Array Slot), (0 ≤ z9 ∧ z9 ≤ 2147483647) → (∀ (z : Int) (u : St), (∃ mm1 : Nat, (d_X5_newName_1 ta A2 A6 z u mm1 z9)) → r_X5_newName ta A z u) → ((6 - z9).toNat = n14) → va_P (dC, dI) vwCl (WK cB cI cJ cZ cQ q A6) H → va_S AS s.heap H locs → lv_has ls 3 [(2, .int (iI z9)), (0, .ref (q 3)), (1, .ref (q ta))] → W p l e (headSpec ws_kc_X5_newName ({ frames := 3, cells := 0, slots := 0, locals := 66 } : Room)).room s m [.ref (q 3), .ref (q ta)].toArray below meth c H locs 0 0 Q (F0 m 22 ls []) := by
      intro n14
      induction n14 using Nat.strongRecOn with
      | ind n14 ih12 =>
        intro z9 H locs ls f13 hk1 hn14 hP hS hl
        refine lv_iload_n hx hb (dk_at dkX5_newName_0 12 rfl) rfl (lv_at hl 0 rfl) ?_
        refine lv_iconst (v := iI 5) hx hb (dk_at dkX5_newName_0 13 rfl) (by decide +kernel) ?_
        refine lv_icmp_ge (tgt := 55) hx hb (dk_at dkX5_newName_0 14 rfl) (by decide) (fun c15 => ?_) (fun c15 => ?_)
        · have c15 : 5 ≤ z9 := (i_le ⟨by decide, by decide⟩ (rb f13 (by decide) (by decide))).mp c15
          refine lv_aload_n hx hb (dk_at dkX5_newName_1 13 rfl) rfl (lv_at hl 1 rfl) ?_
          refine va_get (D := (dC, dI)) (ci := 5) (v := .ref (q 5)) (C := RX5) (T := TX5) (N := 5) hx hb hts hiX5 hown hK hP 3 (wkRD) rfl 0 (by decide) (hts _ (List.mem_cons_of_mem _ wkq_5_6)) (fun _ h9 => h9) rfl (dk_at dkX5_newName_1 14 rfl) ?_
          have e16 : A6 5 4 = (A2 5 4) := (hf8 5 4 rfl rfl)
          have r17 : (-2147483648 : Int) ≤ (A2 5 4) ∧ (A2 5 4) ≤ 2147483647 := by rw [← e16]; exact irLX_4 hI
          refine va_get (D := (dC, dI)) (ci := 3) (v := .int (iI (A6 5 4))) (C := RX3) (T := TX3) (N := 7) hx hb hts hiX3 hown hK hP 5 (wkLX) rfl 4 (by decide) (hts _ (List.mem_cons_of_mem _ wkq_5_30)) (fun _ h9 => h9) rfl (dk_at dkX5_newName_1 15 rfl) ?_
          refine tp_i (y := iI (A2 5 4)) (congrArg iI e16) ?_
          exact RET (A2 5 4) _ _ _ _ _ ⟨hk1 _ _ ⟨0 + 1, (u_d_X5_newName_1 ⟨f13, (Or.inl ⟨c15, ⟨rfl, rfl⟩⟩)⟩)⟩, hI, fk.trans (fk.trans (fk.rf) hf4 rfl rfl) hf8 rfl rfl, r17⟩ hP hS (dk_at dkX5_newName_2 0 rfl)
        · have c15 : ¬ 5 ≤ z9 := mt (i_le ⟨by decide, by decide⟩ (rb f13 (by decide) (by decide))).mpr c15
          refine lv_aload_n hx hb (dk_at dkX5_newName_0 15 rfl) rfl (lv_at hl 2 rfl) ?_
          refine lv_iload_n hx hb (dk_at dkX5_newName_1 0 rfl) rfl (lv_at hl 0 rfl) ?_
          refine lv_aload_n hx hb (dk_at dkX5_newName_1 1 rfl) rfl (lv_at hl 1 rfl) ?_
          refine va_get (D := (dC, dI)) (ci := 5) (v := .ref (q 5)) (C := RX5) (T := TX5) (N := 5) hx hb hts hiX5 hown hK hP 3 (wkRD) rfl 0 (by decide) (hts _ (List.mem_cons_of_mem _ wkq_5_6)) (fun _ h9 => h9) rfl (dk_at dkX5_newName_1 2 rfl) ?_
          have e18 : A6 5 4 = (A2 5 4) := (hf8 5 4 rfl rfl)
          have r19 : (-2147483648 : Int) ≤ (A2 5 4) ∧ (A2 5 4) ≤ 2147483647 := by rw [← e18]; exact irLX_4 hI
          refine va_get (D := (dC, dI)) (ci := 3) (v := .int (iI (A6 5 4))) (C := RX3) (T := TX3) (N := 7) hx hb hts hiX3 hown hK hP 5 (wkLX) rfl 4 (by decide) (hts _ (List.mem_cons_of_mem _ wkq_5_30)) (fun _ h9 => h9) rfl (dk_at dkX5_newName_1 3 rfl) ?_
          refine tp_i (y := iI (A2 5 4)) (congrArg iI e18) ?_
          refine k_calli (As := [.int (iI z9), .int (iI (A2 5 4))]) (rest := []) ⟨hx, hb, hml, hown, hts⟩ hE (kc_X9_find l dC dI cB cI cJ cZ cQ aL aS q _ ta z9 (A2 5 4) hI hta (rb f13 (by decide) (by decide)) r19) (cwV 2 hts (goodVk wkq_5_53 wkq_5_54 wkq_5_55 wkq_0_6 wkq_5_56) rfl rfl rfl (by decide +kernel) ⟨Nat.le_of_ble_eq_true rfl, Nat.le_of_ble_eq_true rfl⟩) hK hDD hA0 hP hS ta 9 (wkT hta) rfl rfl hl.1 (Nat.le_of_ble_eq_true rfl) (dk_at dkX5_newName_1 4 rfl) (fun z20 A21 H locs hw22 hP hS => ?_)
          obtain ⟨rfl, hw22⟩ := hw22
          have ghw22 : q_X9_find ta z9 (A2 5 4) A6 z20 := hw22
          have hw22 := hw22.2
          refine lv_iconst (v := iI (-1)) hx hb (dk_at dkX5_newName_1 5 rfl) (by decide +kernel) ?_
          refine lv_icmp_eq (tgt := 49) hx hb (dk_at dkX5_newName_1 6 rfl) (by decide) (fun c23 => ?_) (fun c23 => ?_)
          · have c23 : z20 = (-1) := (i_eq (rb hw22 (by decide) (by decide)) ⟨by decide, by decide⟩).mp c23
            refine lv_iinc (v := iI (z9 + 1)) (lv' := [(2, .int (iI (z9 + 1))), (0, .ref (q 3)), (1, .ref (q ta))]) hx hb (dk_at dkX5_newName_1 11 rfl) hl (k := 0) rfl (i_inc (by omega)) (by decide) rfl (fun ls hl => ?_)
            refine lv_goto (tgt := 22) hx hb (dk_at dkX5_newName_1 12 rfl) (by decide) ?_
            exact ih12 _ (by omega) (z9 + 1) _ _ _ (by omega) (fun zq uq ⟨mm1, hq⟩ => hk1 _ _ ⟨mm1 + 1, (u_d_X5_newName_1 ⟨f13, (Or.inr ⟨c15, ⟨z20, ghw22, (Or.inl ⟨c23, hq⟩)⟩⟩)⟩)⟩) rfl hP hS (lv_sub hl [0, 1, 2] rfl)
          · have c23 : ¬ z20 = (-1) := mt (i_eq (rb hw22 (by decide) (by decide)) ⟨by decide, by decide⟩).mpr c23
            refine lv_aload_n hx hb (dk_at dkX5_newName_1 7 rfl) rfl (lv_at hl 1 rfl) ?_
            refine lv_iconst (v := iI 2) hx hb (dk_at dkX5_newName_1 8 rfl) (by decide +kernel) ?_
            refine k_calli (As := [.int (iI 2)]) (rest := []) ⟨hx, hb, hml, hown, hts⟩ hE (kc_X5_none l dC dI cB cI cJ cZ cQ aL aS q _ 2 hI ⟨by decide, by decide⟩) (cwV 1 hts (goodVk wkq_5_33 wkq_5_34 wkq_5_35 wkq_5_28 wkq_5_36) rfl rfl rfl (by decide +kernel) ⟨Nat.le_of_ble_eq_true rfl, Nat.le_of_ble_eq_true rfl⟩) hK hDD hA0 hP hS 3 5 (wkRD) rfl rfl hl.1 (Nat.le_of_ble_eq_true rfl) (dk_at dkX5_newName_1 9 rfl) (fun z24 A25 H locs hw26 hP hS => ?_)
            have ghw26 : q_X5_none 2 A6 z24 A25 := hw26
            obtain ⟨_, hI, hf27, hw26⟩ := hw26
            exact RET z24 _ _ _ _ _ ⟨hk1 _ _ ⟨0 + 1, (u_d_X5_newName_1 ⟨f13, (Or.inr ⟨c15, ⟨z20, ghw22, (Or.inr ⟨c23, ⟨z24, A25, ghw26, ⟨rfl, rfl⟩⟩⟩)⟩⟩)⟩)⟩, hI, fk.trans (fk.trans (fk.trans (fk.rf) hf4 rfl rfl) hf8 rfl rfl) hf27 rfl rfl, (by omega)⟩ hP hS (dk_at dkX5_newName_1 10 rfl)
    exact L22_11 _ 0 _ _ _ (by omega) (fun zq uq ⟨mm1, hq⟩ => (u_r_X5_newName ⟨z1, A2, ghw3, (Or.inl ⟨c5, ⟨A6, ghw7, ⟨mm1, hq⟩⟩⟩)⟩)) rfl hP hS (lv_sub hl [0, 1, 2] rfl)
  · have c5 : z1 = 0 := (i_eq0 (rb hw3 (by decide) (by decide))).mp c5
    refine lv_aload_n hx hb (dk_at dkX5_newName_0 3 rfl) rfl (lv_at hl 0 rfl) ?_
    refine lv_iconst (v := iI 1) hx hb (dk_at dkX5_newName_0 4 rfl) (by decide +kernel) ?_
    refine k_calli (As := [.int (iI 1)]) (rest := []) ⟨hx, hb, hml, hown, hts⟩ hE (kc_X5_none l dC dI cB cI cJ cZ cQ aL aS q _ 1 hI ⟨by decide, by decide⟩) (cwV 1 hts (goodVk wkq_5_33 wkq_5_34 wkq_5_35 wkq_5_28 wkq_5_36) rfl rfl rfl (by decide +kernel) ⟨Nat.le_of_ble_eq_true rfl, Nat.le_of_ble_eq_true rfl⟩) hK hDD hA0 hP hS 3 5 (wkRD) rfl rfl hl.1 (Nat.le_of_ble_eq_true rfl) (dk_at dkX5_newName_0 5 rfl) (fun z28 A29 H locs hw30 hP hS => ?_)
    have ghw30 : q_X5_none 1 A2 z28 A29 := hw30
    obtain ⟨_, hI, hf31, hw30⟩ := hw30
    exact RET z28 _ _ _ _ _ ⟨(u_r_X5_newName ⟨z1, A2, ghw3, (Or.inr ⟨c5, ⟨z28, A29, ghw30, ⟨rfl, rfl⟩⟩⟩)⟩), hI, fk.trans (fk.trans (fk.rf) hf4 rfl rfl) hf31 rfl rfl, (by omega)⟩ hP hS (dk_at dkX5_newName_0 6 rfl)

abbrev tr_r_X5_askedSpot (ta : Nat) (A : St) (z : Int) (u : St) : Prop := (∃ z1 : Int, ∃ A2 : St, q_X5_isNameAhead A z1 A2 ∧ (((¬ z1 = 0) ∧ (∃ A6 : St, q_X3_pass A2 A6 ∧ (∃ z11 : Int, q_X9_find_1_0 ta (A2 5 4) A6 z11 ∧ (((z11 = (-1)) ∧ (∃ z15 : Int, q_X9_find_1_1 ta (A2 5 4) A6 z15 ∧ (((z15 = (-1)) ∧ (∃ z19 : Int, ∃ A20 : St, q_X5_none 3 A6 z19 A20 ∧ (z = z19 ∧ u = A20))) ∨ ((¬ z15 = (-1)) ∧ (∃ z23 : Int, q_X9_isBox ta z15 A6 z23 ∧ (((z23 = 0) ∧ (∃ z27 : Int, ∃ A28 : St, q_X5_none 3 A6 z27 A28 ∧ (z = z27 ∧ u = A28))) ∨ ((¬ z23 = 0) ∧ (z = z15 + 20 ∧ u = A6)))))))) ∨ ((¬ z11 = (-1)) ∧ (z = z11 + 10 ∧ u = A6)))))) ∨ ((z1 = 0) ∧ (∃ z31 : Int, ∃ A32 : St, q_X5_none 1 A2 z31 A32 ∧ (z = z31 ∧ u = A32)))))
def r_X5_askedSpot (ta : Nat) (A : St) (z : Int) (u : St) : Prop := tr_r_X5_askedSpot ta A z u
theorem u_r_X5_askedSpot {ta : Nat} {A : St} {z : Int} {u : St} (h : tr_r_X5_askedSpot ta A z u) : r_X5_askedSpot ta A z u := h
def q_X5_askedSpot (ta : Nat) (A : St) (z : Int) (u : St) : Prop := r_X5_askedSpot ta A z u ∧ IK u ∧ fk [] [(3, 2), (3, 3), (5, 1), (5, 2), (5, 3), (5, 4), (5, 5), (5, 6)] A u ∧ (-2147483648 ≤ z ∧ z ≤ 2147483647)
def ws_kc_X5_askedSpot : List Cond := .code yX5_askedSpot cX5_askedSpot 4 (some .int) :: WY
set_option maxHeartbeats 4000000 in
set_option maxRecDepth 100000 in
theorem kc_X5_askedSpot (l : Launch) (dC : Nat → ClassId) (dI : Nat → Nat → Nat) (cB cI cJ cZ cQ : ClassId) (aL aS : Nat) (q : Nat → Nat) (A : St) (ta : Nat) (hI : IK A) (hta : isT ta) : KMi l yX5_askedSpot ws_kc_X5_askedSpot ({ frames := 3, cells := 0, slots := 0, locals := 66 } : Room) aL aS (dC, dI) (tyA cB cI cJ cZ cQ) (WK cB cI cJ cZ cQ q) A [.ref (q 3), .ref (q ta)] (fun z u => r_X5_askedSpot ta A z u ∧ IK u ∧ fk [] [(3, 2), (3, 3), (5, 1), (5, 2), (5, 3), (5, 4), (5, 5), (5, 6)] A u ∧ (-2147483648 ≤ z ∧ z ≤ 2147483647)) := by
  refine k_meti (cc := cX5_askedSpot) (maxL := 4) WK_adr (plainFor_of_name (by decide +kernel)) rfl (Nat.le_of_ble_eq_true rfl) (fun p e s m below meth c Q AS ls hx hb hml hown hts hK hDD hA0 hE RET H locs hP hS hl => ?_)
  have hown : s.vm.findClass RX5 = some m.cls := hown
  have hl : lv_has ls 4 [(0, .ref (q 3)), (1, .ref (q ta))] := hl
  have hiX5 : ∀ w ∈ u_ws RX5 TX5 5, w ∈ ws_kc_X5_askedSpot := fun w h => List.mem_cons_of_mem _ (wy_layX5 w h)
  have hiX3 : ∀ w ∈ u_ws RX3 TX3 7, w ∈ ws_kc_X5_askedSpot := fun w h => List.mem_cons_of_mem _ (wy_layX3 w h)
  refine lv_aload_n hx hb (dk_at dkX5_askedSpot_0 0 rfl) rfl (lv_at hl 0 rfl) ?_
  refine k_calli (As := []) (rest := []) ⟨hx, hb, hml, hown, hts⟩ hE (kc_X5_isNameAhead l dC dI cB cI cJ cZ cQ aL aS q _ hI) (cwV 0 hts (goodVk wkq_5_49 wkq_5_50 wkq_5_51 wkq_5_28 wkq_5_52) rfl rfl rfl (by decide +kernel) ⟨Nat.le_of_ble_eq_true rfl, Nat.le_of_ble_eq_true rfl⟩) hK hDD hA0 hP hS 3 5 (wkRD) rfl rfl hl.1 (Nat.le_of_ble_eq_true rfl) (dk_at dkX5_askedSpot_0 1 rfl) (fun z1 A2 H locs hw3 hP hS => ?_)
  have ghw3 : q_X5_isNameAhead A z1 A2 := hw3
  obtain ⟨_, hI, hf4, hw3⟩ := hw3
  refine lv_if_ne (tgt := 13) hx hb (dk_at dkX5_askedSpot_0 2 rfl) (by decide) (fun c5 => ?_) (fun c5 => ?_)
  · have c5 : ¬ z1 = 0 := mt (i_eq0 (rb hw3 (by decide) (by decide))).mpr c5
    refine lv_aload_n hx hb (dk_at dkX5_askedSpot_0 7 rfl) rfl (lv_at hl 0 rfl) ?_
    refine va_get (D := (dC, dI)) (ci := 5) (v := .ref (q 5)) (C := RX5) (T := TX5) (N := 5) hx hb hts hiX5 hown hK hP 3 (wkRD) rfl 0 (by decide) (hts _ (List.mem_cons_of_mem _ wkq_5_6)) (fun _ h9 => h9) rfl (dk_at dkX5_askedSpot_0 8 rfl) ?_
    refine k_callv (As := []) (rest := []) ⟨hx, hb, hml, hown, hts⟩ hE (kc_X3_pass l dC dI cB cI cJ cZ cQ aL aS q _ hI) (cwV 0 hts (goodVk wkq_5_42 wkq_5_43 wkq_5_44 wkq_4_10 wkq_3_58) rfl rfl rfl (by decide +kernel) ⟨Nat.le_of_ble_eq_true rfl, Nat.le_of_ble_eq_true rfl⟩) hK hDD hA0 hP hS 5 3 (wkLX) rfl rfl hl.1 (Nat.le_of_ble_eq_true rfl) (dk_at dkX5_askedSpot_0 9 rfl) (fun A6 H locs hw7 hP hS => ?_)
    have ghw7 : q_X3_pass A2 A6 := hw7
    obtain ⟨_, hI, hf8, hw7⟩ := hw7
    clear hw7
    refine lv_aload_n hx hb (dk_at dkX5_askedSpot_0 10 rfl) rfl (lv_at hl 1 rfl) ?_
    refine lv_iconst (v := iI 0) hx hb (dk_at dkX5_askedSpot_0 11 rfl) (by decide +kernel) ?_
    refine lv_aload_n hx hb (dk_at dkX5_askedSpot_0 12 rfl) rfl (lv_at hl 0 rfl) ?_
    refine va_get (D := (dC, dI)) (ci := 5) (v := .ref (q 5)) (C := RX5) (T := TX5) (N := 5) hx hb hts hiX5 hown hK hP 3 (wkRD) rfl 0 (by decide) (hts _ (List.mem_cons_of_mem _ wkq_5_6)) (fun _ h9 => h9) rfl (dk_at dkX5_askedSpot_0 13 rfl) ?_
    have e9 : A6 5 4 = (A2 5 4) := (hf8 5 4 rfl rfl)
    have r10 : (-2147483648 : Int) ≤ (A2 5 4) ∧ (A2 5 4) ≤ 2147483647 := by rw [← e9]; exact irLX_4 hI
    refine va_get (D := (dC, dI)) (ci := 3) (v := .int (iI (A6 5 4))) (C := RX3) (T := TX3) (N := 7) hx hb hts hiX3 hown hK hP 5 (wkLX) rfl 4 (by decide) (hts _ (List.mem_cons_of_mem _ wkq_5_30)) (fun _ h9 => h9) rfl (dk_at dkX5_askedSpot_0 14 rfl) ?_
    refine tp_i (y := iI (A2 5 4)) (congrArg iI e9) ?_
    refine k_calli (As := [.int (iI 0), .int (iI (A2 5 4))]) (rest := []) ⟨hx, hb, hml, hown, hts⟩ hE (kc_X9_find_1_0 l dC dI cB cI cJ cZ cQ aL aS q _ ta (A2 5 4) hI hta r10) (cwV 2 hts (goodVk wkq_5_53 wkq_5_54 wkq_5_55 wkq_0_6 wkq_5_56) rfl rfl rfl (by decide +kernel) ⟨Nat.le_of_ble_eq_true rfl, Nat.le_of_ble_eq_true rfl⟩) hK hDD hA0 hP hS ta 9 (wkT hta) rfl rfl hl.1 (Nat.le_of_ble_eq_true rfl) (dk_at dkX5_askedSpot_0 15 rfl) (fun z11 A12 H locs hw13 hP hS => ?_)
    obtain ⟨rfl, hw13⟩ := hw13
    have ghw13 : q_X9_find_1_0 ta (A2 5 4) A6 z11 := hw13
    have hw13 := hw13.2
    refine lv_istore_n (lv' := [(2, .int (iI z11)), (0, .ref (q 3)), (1, .ref (q ta))]) hx hb (dk_at dkX5_askedSpot_1 0 rfl) rfl hl (by decide) rfl (fun ls hl => ?_)
    refine lv_iload_n hx hb (dk_at dkX5_askedSpot_1 1 rfl) rfl (lv_at hl 0 rfl) ?_
    refine lv_iconst (v := iI (-1)) hx hb (dk_at dkX5_askedSpot_1 2 rfl) (by decide +kernel) ?_
    refine lv_icmp_eq (tgt := 43) hx hb (dk_at dkX5_askedSpot_1 3 rfl) (by decide) (fun c14 => ?_) (fun c14 => ?_)
    · have c14 : z11 = (-1) := (i_eq (rb hw13 (by decide) (by decide)) ⟨by decide, by decide⟩).mp c14
      refine lv_aload_n hx hb (dk_at dkX5_askedSpot_1 8 rfl) rfl (lv_at hl 2 rfl) ?_
      refine lv_iconst (v := iI 1) hx hb (dk_at dkX5_askedSpot_1 9 rfl) (by decide +kernel) ?_
      refine lv_aload_n hx hb (dk_at dkX5_askedSpot_1 10 rfl) rfl (lv_at hl 1 rfl) ?_
      refine va_get (D := (dC, dI)) (ci := 5) (v := .ref (q 5)) (C := RX5) (T := TX5) (N := 5) hx hb hts hiX5 hown hK hP 3 (wkRD) rfl 0 (by decide) (hts _ (List.mem_cons_of_mem _ wkq_5_6)) (fun _ h9 => h9) rfl (dk_at dkX5_askedSpot_1 11 rfl) ?_
      refine va_get (D := (dC, dI)) (ci := 3) (v := .int (iI (A6 5 4))) (C := RX3) (T := TX3) (N := 7) hx hb hts hiX3 hown hK hP 5 (wkLX) rfl 4 (by decide) (hts _ (List.mem_cons_of_mem _ wkq_5_30)) (fun _ h9 => h9) rfl (dk_at dkX5_askedSpot_1 12 rfl) ?_
      refine tp_i (y := iI (A2 5 4)) (congrArg iI e9) ?_
      refine k_calli (As := [.int (iI 1), .int (iI (A2 5 4))]) (rest := []) ⟨hx, hb, hml, hown, hts⟩ hE (kc_X9_find_1_1 l dC dI cB cI cJ cZ cQ aL aS q _ ta (A2 5 4) hI hta r10) (cwV 2 hts (goodVk wkq_5_53 wkq_5_54 wkq_5_55 wkq_0_6 wkq_5_56) rfl rfl rfl (by decide +kernel) ⟨Nat.le_of_ble_eq_true rfl, Nat.le_of_ble_eq_true rfl⟩) hK hDD hA0 hP hS ta 9 (wkT hta) rfl rfl hl.1 (Nat.le_of_ble_eq_true rfl) (dk_at dkX5_askedSpot_1 13 rfl) (fun z15 A16 H locs hw17 hP hS => ?_)
      obtain ⟨rfl, hw17⟩ := hw17
      have ghw17 : q_X9_find_1_1 ta (A2 5 4) A6 z15 := hw17
      have hw17 := hw17.2
      refine lv_istore_n (lv' := [(3, .int (iI z15)), (2, .int (iI z11)), (0, .ref (q 3)), (1, .ref (q ta))]) hx hb (dk_at dkX5_askedSpot_1 14 rfl) rfl hl (by decide) rfl (fun ls hl => ?_)
      refine lv_iload_n hx hb (dk_at dkX5_askedSpot_1 15 rfl) rfl (lv_at hl 0 rfl) ?_
      refine lv_iconst (v := iI (-1)) hx hb (dk_at dkX5_askedSpot_2 0 rfl) (by decide +kernel) ?_
      refine lv_icmp_eq (tgt := 76) hx hb (dk_at dkX5_askedSpot_2 1 rfl) (by decide) (fun c18 => ?_) (fun c18 => ?_)
      · have c18 : z15 = (-1) := (i_eq (rb hw17 (by decide) (by decide)) ⟨by decide, by decide⟩).mp c18
        refine lv_aload_n hx hb (dk_at dkX5_askedSpot_2 10 rfl) rfl (lv_at hl 2 rfl) ?_
        refine lv_iconst (v := iI 3) hx hb (dk_at dkX5_askedSpot_2 11 rfl) (by decide +kernel) ?_
        refine k_calli (As := [.int (iI 3)]) (rest := []) ⟨hx, hb, hml, hown, hts⟩ hE (kc_X5_none l dC dI cB cI cJ cZ cQ aL aS q _ 3 hI ⟨by decide, by decide⟩) (cwV 1 hts (goodVk wkq_5_33 wkq_5_34 wkq_5_35 wkq_5_28 wkq_5_36) rfl rfl rfl (by decide +kernel) ⟨Nat.le_of_ble_eq_true rfl, Nat.le_of_ble_eq_true rfl⟩) hK hDD hA0 hP hS 3 5 (wkRD) rfl rfl hl.1 (Nat.le_of_ble_eq_true rfl) (dk_at dkX5_askedSpot_2 12 rfl) (fun z19 A20 H locs hw21 hP hS => ?_)
        have ghw21 : q_X5_none 3 A6 z19 A20 := hw21
        obtain ⟨_, hI, hf22, hw21⟩ := hw21
        exact RET z19 _ _ _ _ _ ⟨(u_r_X5_askedSpot ⟨z1, A2, ghw3, (Or.inl ⟨c5, ⟨A6, ghw7, ⟨z11, ghw13, (Or.inl ⟨c14, ⟨z15, ghw17, (Or.inl ⟨c18, ⟨z19, A20, ghw21, ⟨rfl, rfl⟩⟩⟩)⟩⟩)⟩⟩⟩)⟩), hI, fk.trans (fk.trans (fk.trans (fk.rf) hf4 rfl rfl) hf8 rfl rfl) hf22 rfl rfl, (by omega)⟩ hP hS (dk_at dkX5_askedSpot_2 13 rfl)
      · have c18 : ¬ z15 = (-1) := mt (i_eq (rb hw17 (by decide) (by decide)) ⟨by decide, by decide⟩).mpr c18
        refine lv_aload_n hx hb (dk_at dkX5_askedSpot_2 2 rfl) rfl (lv_at hl 3 rfl) ?_
        refine lv_iload_n hx hb (dk_at dkX5_askedSpot_2 3 rfl) rfl (lv_at hl 0 rfl) ?_
        refine k_calli (As := [.int (iI z15)]) (rest := []) ⟨hx, hb, hml, hown, hts⟩ hE (kc_X9_isBox l dC dI cB cI cJ cZ cQ aL aS q _ ta z15 hI hta (rb hw17 (by decide) (by decide))) (cwV 1 hts (goodVk wkq_6_39 wkq_1_6 wkq_1_7 wkq_0_6 wkq_1_8) rfl rfl rfl (by decide +kernel) ⟨Nat.le_of_ble_eq_true rfl, Nat.le_of_ble_eq_true rfl⟩) hK hDD hA0 hP hS ta 9 (wkT hta) rfl rfl hl.1 (Nat.le_of_ble_eq_true rfl) (dk_at dkX5_askedSpot_2 4 rfl) (fun z23 A24 H locs hw25 hP hS => ?_)
        obtain ⟨rfl, hw25⟩ := hw25
        have ghw25 : q_X9_isBox ta z15 A6 z23 := hw25
        have hw25 := hw25.2
        have rz23 : 0 ≤ z23 ∧ z23 ≤ 1 := hw25.1
        have hw25 := hw25.2
        refine lv_if_eq (tgt := 76) hx hb (dk_at dkX5_askedSpot_2 5 rfl) (by decide) (fun c26 => ?_) (fun c26 => ?_)
        · have c26 : z23 = 0 := (i_eq0 (rb rz23 (by decide) (by decide))).mp c26
          clear hw25
          refine lv_aload_n hx hb (dk_at dkX5_askedSpot_2 10 rfl) rfl (lv_at hl 2 rfl) ?_
          refine lv_iconst (v := iI 3) hx hb (dk_at dkX5_askedSpot_2 11 rfl) (by decide +kernel) ?_
          refine k_calli (As := [.int (iI 3)]) (rest := []) ⟨hx, hb, hml, hown, hts⟩ hE (kc_X5_none l dC dI cB cI cJ cZ cQ aL aS q _ 3 hI ⟨by decide, by decide⟩) (cwV 1 hts (goodVk wkq_5_33 wkq_5_34 wkq_5_35 wkq_5_28 wkq_5_36) rfl rfl rfl (by decide +kernel) ⟨Nat.le_of_ble_eq_true rfl, Nat.le_of_ble_eq_true rfl⟩) hK hDD hA0 hP hS 3 5 (wkRD) rfl rfl hl.1 (Nat.le_of_ble_eq_true rfl) (dk_at dkX5_askedSpot_2 12 rfl) (fun z27 A28 H locs hw29 hP hS => ?_)
          have ghw29 : q_X5_none 3 A6 z27 A28 := hw29
          obtain ⟨_, hI, hf30, hw29⟩ := hw29
          exact RET z27 _ _ _ _ _ ⟨(u_r_X5_askedSpot ⟨z1, A2, ghw3, (Or.inl ⟨c5, ⟨A6, ghw7, ⟨z11, ghw13, (Or.inl ⟨c14, ⟨z15, ghw17, (Or.inr ⟨c18, ⟨z23, ghw25, (Or.inl ⟨c26, ⟨z27, A28, ghw29, ⟨rfl, rfl⟩⟩⟩)⟩⟩)⟩⟩)⟩⟩⟩)⟩), hI, fk.trans (fk.trans (fk.trans (fk.rf) hf4 rfl rfl) hf8 rfl rfl) hf30 rfl rfl, (by omega)⟩ hP hS (dk_at dkX5_askedSpot_2 13 rfl)
        · have c26 : ¬ z23 = 0 := mt (i_eq0 (rb rz23 (by decide) (by decide))).mpr c26
          have hw25b := hw25 (by omega)
          clear hw25
          refine lv_bipush (v := iI 20) hx hb (dk_at dkX5_askedSpot_2 6 rfl) (by decide +kernel) ?_
          refine lv_iload_n hx hb (dk_at dkX5_askedSpot_2 7 rfl) rfl (lv_at hl 0 rfl) ?_
          refine x_addv (v := z15 + 20) hx hb (dk_at dkX5_askedSpot_2 8 rfl) (by omega) ?_
          refine lv_goto (tgt := 81) hx hb (dk_at dkX5_askedSpot_2 9 rfl) (by decide) ?_
          exact RET (z15 + 20) _ _ _ _ _ ⟨(u_r_X5_askedSpot ⟨z1, A2, ghw3, (Or.inl ⟨c5, ⟨A6, ghw7, ⟨z11, ghw13, (Or.inl ⟨c14, ⟨z15, ghw17, (Or.inr ⟨c18, ⟨z23, ghw25, (Or.inr ⟨c26, ⟨rfl, rfl⟩⟩)⟩⟩)⟩⟩)⟩⟩⟩)⟩), hI, fk.trans (fk.trans (fk.rf) hf4 rfl rfl) hf8 rfl rfl, (by omega)⟩ hP hS (dk_at dkX5_askedSpot_2 13 rfl)
    · have c14 : ¬ z11 = (-1) := mt (i_eq (rb hw13 (by decide) (by decide)) ⟨by decide, by decide⟩).mpr c14
      refine lv_bipush (v := iI 10) hx hb (dk_at dkX5_askedSpot_1 4 rfl) (by decide +kernel) ?_
      refine lv_iload_n hx hb (dk_at dkX5_askedSpot_1 5 rfl) rfl (lv_at hl 0 rfl) ?_
      refine x_addv (v := z11 + 10) hx hb (dk_at dkX5_askedSpot_1 6 rfl) (by omega) ?_
      exact RET (z11 + 10) _ _ _ _ _ ⟨(u_r_X5_askedSpot ⟨z1, A2, ghw3, (Or.inl ⟨c5, ⟨A6, ghw7, ⟨z11, ghw13, (Or.inr ⟨c14, ⟨rfl, rfl⟩⟩)⟩⟩⟩)⟩), hI, fk.trans (fk.trans (fk.rf) hf4 rfl rfl) hf8 rfl rfl, (by omega)⟩ hP hS (dk_at dkX5_askedSpot_1 7 rfl)
  · have c5 : z1 = 0 := (i_eq0 (rb hw3 (by decide) (by decide))).mp c5
    refine lv_aload_n hx hb (dk_at dkX5_askedSpot_0 3 rfl) rfl (lv_at hl 0 rfl) ?_
    refine lv_iconst (v := iI 1) hx hb (dk_at dkX5_askedSpot_0 4 rfl) (by decide +kernel) ?_
    refine k_calli (As := [.int (iI 1)]) (rest := []) ⟨hx, hb, hml, hown, hts⟩ hE (kc_X5_none l dC dI cB cI cJ cZ cQ aL aS q _ 1 hI ⟨by decide, by decide⟩) (cwV 1 hts (goodVk wkq_5_33 wkq_5_34 wkq_5_35 wkq_5_28 wkq_5_36) rfl rfl rfl (by decide +kernel) ⟨Nat.le_of_ble_eq_true rfl, Nat.le_of_ble_eq_true rfl⟩) hK hDD hA0 hP hS 3 5 (wkRD) rfl rfl hl.1 (Nat.le_of_ble_eq_true rfl) (dk_at dkX5_askedSpot_0 5 rfl) (fun z31 A32 H locs hw33 hP hS => ?_)
    have ghw33 : q_X5_none 1 A2 z31 A32 := hw33
    obtain ⟨_, hI, hf34, hw33⟩ := hw33
    exact RET z31 _ _ _ _ _ ⟨(u_r_X5_askedSpot ⟨z1, A2, ghw3, (Or.inr ⟨c5, ⟨z31, A32, ghw33, ⟨rfl, rfl⟩⟩⟩)⟩), hI, fk.trans (fk.trans (fk.rf) hf4 rfl rfl) hf34 rfl rfl, (by omega)⟩ hP hS (dk_at dkX5_askedSpot_0 6 rfl)

abbrev tr_r_X9_add_1_0 (ta : Nat) (x2 : Int) (A : St) (z : Int) (u : St) : Prop := (((x2 = (-1)) ∧ (z = 0 ∧ u = A)) ∨ ((¬ x2 = (-1)) ∧ (∃ z4 : Int, z4 = A (ta + 1) (0 : Int).toNat ∧ (((z4 < 8) ∧ (∃ A8 : St, A8 = stA A (ta + 3 + (0 : Int).toNat) (z4).toNat x2 ∧ (∃ A11 : St, A11 = stA A8 (ta + 1) (0 : Int).toNat (z4 + 1) ∧ (z = 1 ∧ u = A11)))) ∨ ((¬ z4 < 8) ∧ (z = 0 ∧ u = A))))))
def r_X9_add_1_0 (ta : Nat) (x2 : Int) (A : St) (z : Int) (u : St) : Prop := tr_r_X9_add_1_0 ta x2 A z u
theorem u_r_X9_add_1_0 {ta : Nat} {x2 : Int} {A : St} {z : Int} {u : St} (h : tr_r_X9_add_1_0 ta x2 A z u) : r_X9_add_1_0 ta x2 A z u := h
def q_X9_add_1_0 (ta : Nat) (x2 : Int) (A : St) (z : Int) (u : St) : Prop := r_X9_add_1_0 ta x2 A z u ∧ IK u ∧ fk [52, 54, 55, 56, 57, 58, 83, 85, 86, 87, 88, 89] [] A u ∧ ((0 ≤ z ∧ z ≤ 1) ∧ (z = 1 → 1 ≤ u (ta + 1) (0 : Int).toNat))
def ws_kc_X9_add_1_0 : List Cond := .code yX9_add cX9_add 3 (some .boolean) :: WY
set_option maxHeartbeats 4000000 in
set_option maxRecDepth 100000 in
theorem kc_X9_add_1_0 (l : Launch) (dC : Nat → ClassId) (dI : Nat → Nat → Nat) (cB cI cJ cZ cQ : ClassId) (aL aS : Nat) (q : Nat → Nat) (A : St) (ta : Nat) (x2 : Int) (hI : IK A) (hta : isT ta) (hx2 : (-2147483648 : Int) ≤ x2 ∧ x2 ≤ 2147483647) : KMi l yX9_add ws_kc_X9_add_1_0 ({ frames := 0, cells := 0, slots := 0, locals := 0 } : Room) aL aS (dC, dI) (tyA cB cI cJ cZ cQ) (WK cB cI cJ cZ cQ q) A [.ref (q ta), .int (iI 0), .int (iI x2)] (fun z u => r_X9_add_1_0 ta x2 A z u ∧ IK u ∧ fk [52, 54, 55, 56, 57, 58, 83, 85, 86, 87, 88, 89] [] A u ∧ ((0 ≤ z ∧ z ≤ 1) ∧ (z = 1 → 1 ≤ u (ta + 1) (0 : Int).toNat))) := by
  refine k_metz (cc := cX9_add) (maxL := 3) WK_adr (plainFor_of_name (by decide +kernel)) rfl (Nat.le_of_ble_eq_true rfl) (fun z u h => h.2.2.2.1) (fun p e s m below meth c Q AS ls hx hb hml hown hts hK hDD hA0 hE RET H locs hP hS hl => ?_)
  have hown : s.vm.findClass RX9 = some m.cls := hown
  have hl : lv_has ls 3 [(0, .ref (q ta)), (1, .int (iI 0)), (2, .int (iI x2))] := hl
  have hiX9 : ∀ w ∈ u_ws RX9 TX9 16, w ∈ ws_kc_X9_add_1_0 := fun w h => List.mem_cons_of_mem _ (wy_layX9 w h)
  refine lv_iload_n hx hb (dk_at dkX9_add_0 0 rfl) rfl (lv_at hl 2 rfl) ?_
  refine lv_iconst (v := iI (-1)) hx hb (dk_at dkX9_add_0 1 rfl) (by decide +kernel) ?_
  refine lv_icmp_eq (tgt := 28) hx hb (dk_at dkX9_add_0 2 rfl) (by decide) (fun c1 => ?_) (fun c1 => ?_)
  · have c1 : x2 = (-1) := (i_eq hx2 ⟨by decide, by decide⟩).mp c1
    refine lv_iconst (v := iI 0) hx hb (dk_at dkX9_add_1 0 rfl) (by decide +kernel) ?_
    exact RET 0 _ _ _ _ _ ⟨(u_r_X9_add_1_0 (Or.inl ⟨c1, ⟨rfl, rfl⟩⟩)), hI, fk.rf, ⟨by decide, fun h => absurd h (by decide)⟩⟩ hP hS (dk_at dkX9_add_1 1 rfl)
  · have c1 : ¬ x2 = (-1) := mt (i_eq hx2 ⟨by decide, by decide⟩).mpr c1
    refine lv_iload_n hx hb (dk_at dkX9_add_0 3 rfl) rfl (lv_at hl 1 rfl) ?_
    refine lv_if_lt (tgt := 28) hx hb (dk_at dkX9_add_0 4 rfl) (by decide) (fun c2 => absurd c2 (by decide +kernel)) (fun _ => ?_)
    refine lv_iload_n hx hb (dk_at dkX9_add_0 5 rfl) rfl (lv_at hl 1 rfl) ?_
    refine lv_iconst (v := iI 5) hx hb (dk_at dkX9_add_0 6 rfl) (by decide +kernel) ?_
    refine lv_icmp_ge (tgt := 28) hx hb (dk_at dkX9_add_0 7 rfl) (by decide) (fun c3 => absurd c3 (by decide +kernel)) (fun _ => ?_)
    refine lv_aload_n hx hb (dk_at dkX9_add_0 8 rfl) rfl (lv_at hl 0 rfl) ?_
    refine va_get (D := (dC, dI)) (ci := 9) (v := .ref (q (ta + 1))) (C := RX9) (T := TX9) (N := 16) hx hb hts hiX9 hown hK hP ta (wkT hta) rfl 0 (by decide) (hts _ (List.mem_cons_of_mem _ wkq_0_8)) (fun _ h9 => h9) rfl (dk_at dkX9_add_0 9 rfl) ?_
    refine lv_iload_n hx hb (dk_at dkX9_add_0 10 rfl) rfl (lv_at hl 1 rfl) ?_
    refine x_iald (Wf := WK cB cI cJ cZ cQ q) hx hb hK hP (ta + 1) 1 (wkTc hta) rfl (by decide) (by decide) (dk_at dkX9_add_0 11 rfl) (fun z4 hz4 => ?_)
    have rz4 : (0 : Int) ≤ z4 ∧ z4 ≤ 8 := by rw [hz4]; exact irTc0 hta hI
    have gz4 := Hd.mk hz4
    refine va_getsN hx hb hE.2.2.2.2.2.1 hS hown (va_Nw.use rfl hE.2.2.1) (fun _ h => h) (dk_at dkX9_add_0 12 rfl) ?_
    refine lv_iload_n hx hb (dk_at dkX9_add_0 13 rfl) rfl (lv_at hl 1 rfl) ?_
    refine k_tald hx hb hE.2.2.2.2.2.2 hS (by omega) (by decide) (dk_at dkX9_add_0 14 rfl) (fun z5 hz5 => ?_)
    refine tp_i (y := iI 8) (congrArg iI (hz5.trans (by decide +kernel))) ?_
    refine lv_icmp_lt (tgt := 30) hx hb (dk_at dkX9_add_0 15 rfl) (by decide) (fun c6 => ?_) (fun c6 => ?_)
    · have c6 : z4 < 8 := (i_lt (rb rz4 (by decide) (by decide)) ⟨by decide, by decide⟩).mp c6
      refine lv_aload_n hx hb (dk_at dkX9_add_1 2 rfl) rfl (lv_at hl 0 rfl) ?_
      refine va_get (D := (dC, dI)) (ci := 9) (v := .ref (q (ta + 2))) (C := RX9) (T := TX9) (N := 16) hx hb hts hiX9 hown hK hP ta (wkT hta) rfl 1 (by decide) (hts _ (List.mem_cons_of_mem _ wkq_5_57)) (fun _ h9 => h9) rfl (dk_at dkX9_add_1 3 rfl) ?_
      refine lv_iload_n hx hb (dk_at dkX9_add_1 4 rfl) rfl (lv_at hl 1 rfl) ?_
      refine k_aald (Wf := WK cB cI cJ cZ cQ q) hx hb hK hP (ta + 2) 4 (wkTq hta) rfl (by omega) (by decide) (b := q (ta + 3 + (0 : Int).toNat)) rfl (dk_at dkX9_add_1 5 rfl) ?_
      refine lv_aload_n hx hb (dk_at dkX9_add_1 6 rfl) rfl (lv_at hl 0 rfl) ?_
      refine va_get (D := (dC, dI)) (ci := 9) (v := .ref (q (ta + 1))) (C := RX9) (T := TX9) (N := 16) hx hb hts hiX9 hown hK hP ta (wkT hta) rfl 0 (by decide) (hts _ (List.mem_cons_of_mem _ wkq_0_8)) (fun _ h9 => h9) rfl (dk_at dkX9_add_1 7 rfl) ?_
      refine lv_iload_n hx hb (dk_at dkX9_add_1 8 rfl) rfl (lv_at hl 1 rfl) ?_
      refine x_iald (Wf := WK cB cI cJ cZ cQ q) hx hb hK hP (ta + 1) 1 (wkTc hta) rfl (by decide) (by decide) (dk_at dkX9_add_1 9 rfl) (fun z7 hz7 => ?_)
      have rz7 : (0 : Int) ≤ z7 ∧ z7 ≤ 8 := by rw [hz7]; exact irTc0 hta hI
      have gz7 := Hd.mk hz7
      have ez7 : z7 = z4 := hz7.trans hz4.symm
      refine tp_i (y := iI z4) (congrArg iI ez7) ?_
      refine lv_iload_n hx hb (dk_at dkX9_add_1 10 rfl) rfl (lv_at hl 2 rfl) ?_
      refine k_iast (Wf := WK cB cI cJ cZ cQ q) hx hb hK hP hDD hS (ta + 3 + (0 : Int).toNat) 1 (wkTn hta (i := 0) (by decide)) rfl (by omega) (by decide) (dk_at dkX9_add_1 11 rfl) (wsTn hta (i := 0) (by decide)) (fun H locs A8 hA8 hP hS => ?_)
      have hI := isTn hta (i := 0) (by decide) hA8 hI (show (-2147483648 : Int) ≤ x2 ∧ x2 ≤ 2147483647 from hx2)
      refine lv_aload_n hx hb (dk_at dkX9_add_1 12 rfl) rfl (lv_at hl 0 rfl) ?_
      refine va_get (D := (dC, dI)) (ci := 9) (v := .ref (q (ta + 1))) (C := RX9) (T := TX9) (N := 16) hx hb hts hiX9 hown hK hP ta (wkT hta) rfl 0 (by decide) (hts _ (List.mem_cons_of_mem _ wkq_0_8)) (fun _ h9 => h9) rfl (dk_at dkX9_add_1 13 rfl) ?_
      refine lv_iload_n hx hb (dk_at dkX9_add_1 14 rfl) rfl (lv_at hl 1 rfl) ?_
      refine lv_dup2_11 hx hb (dk_at dkX9_add_1 15 rfl) rfl rfl ?_
      have a9 : ∀ k, A8 (ta + 1) k = A (ta + 1) k := fun k => rd_ne hA8 (by omega) k
      refine x_iald (Wf := WK cB cI cJ cZ cQ q) hx hb hK hP (ta + 1) 1 (wkTc hta) rfl (by decide) (by decide) (dk_at dkX9_add_2 0 rfl) (fun z10 hz10 => ?_)
      have rz10 : (0 : Int) ≤ z10 ∧ z10 ≤ 8 := by rw [hz10]; exact irTc0 hta hI
      have gz10 := Hd.mk hz10
      have hz10 : z10 = A (ta + 1) (0 : Int).toNat := hz10.trans (a9 _)
      have ez10 : z10 = z4 := hz10.trans hz4.symm
      refine tp_i (y := iI z4) (congrArg iI ez10) ?_
      refine lv_iconst (v := iI 1) hx hb (dk_at dkX9_add_2 1 rfl) (by decide +kernel) ?_
      refine x_addv (v := z4 + 1) hx hb (dk_at dkX9_add_2 2 rfl) (by omega) ?_
      refine k_iast (Wf := WK cB cI cJ cZ cQ q) hx hb hK hP hDD hS (ta + 1) 1 (wkTc hta) rfl (by decide) (by decide) (dk_at dkX9_add_2 3 rfl) (wsTc hta) (fun H locs A11 hA11 hP hS => ?_)
      have hI := isTc hta hA11 hI (show (0 : Int) ≤ z4 + 1 ∧ z4 + 1 ≤ 8 from (by omega))
      refine lv_iconst (v := iI 1) hx hb (dk_at dkX9_add_2 4 rfl) (by decide +kernel) ?_
      exact RET 1 _ _ _ _ _ ⟨(u_r_X9_add_1_0 (Or.inr ⟨c1, ⟨z4, gz4.out, (Or.inl ⟨c6, ⟨A8, hA8, ⟨A11, hA11, ⟨rfl, rfl⟩⟩⟩⟩)⟩⟩)), hI, fk.da (fk.da (fk.rf) hA8 (by rcases hta with h | h <;> rw [h] <;> rfl)) hA11 (isT.b2 (o := fun b => List.contains [52, 54, 55, 56, 57, 58, 83, 85, 86, 87, 88, 89] (b + 1)) hta rfl rfl), ⟨by decide, fun _ => by rw [rd_is hA11]; omega⟩⟩ hP hS (dk_at dkX9_add_2 5 rfl)
    · have c6 : ¬ z4 < 8 := mt (i_lt (rb rz4 (by decide) (by decide)) ⟨by decide, by decide⟩).mpr c6
      refine lv_iconst (v := iI 0) hx hb (dk_at dkX9_add_1 0 rfl) (by decide +kernel) ?_
      exact RET 0 _ _ _ _ _ ⟨(u_r_X9_add_1_0 (Or.inr ⟨c1, ⟨z4, gz4.out, (Or.inr ⟨c6, ⟨rfl, rfl⟩⟩)⟩⟩)), hI, fk.rf, ⟨by decide, fun h => absurd h (by decide)⟩⟩ hP hS (dk_at dkX9_add_1 1 rfl)

abbrev tr_r_X9_add_1_1 (ta : Nat) (x2 : Int) (A : St) (z : Int) (u : St) : Prop := (((x2 = (-1)) ∧ (z = 0 ∧ u = A)) ∨ ((¬ x2 = (-1)) ∧ (∃ z4 : Int, z4 = A (ta + 1) (1 : Int).toNat ∧ (((z4 < 10) ∧ (∃ A8 : St, A8 = stA A (ta + 3 + (1 : Int).toNat) (z4).toNat x2 ∧ (∃ A11 : St, A11 = stA A8 (ta + 1) (1 : Int).toNat (z4 + 1) ∧ (z = 1 ∧ u = A11)))) ∨ ((¬ z4 < 10) ∧ (z = 0 ∧ u = A))))))
def r_X9_add_1_1 (ta : Nat) (x2 : Int) (A : St) (z : Int) (u : St) : Prop := tr_r_X9_add_1_1 ta x2 A z u
theorem u_r_X9_add_1_1 {ta : Nat} {x2 : Int} {A : St} {z : Int} {u : St} (h : tr_r_X9_add_1_1 ta x2 A z u) : r_X9_add_1_1 ta x2 A z u := h
def q_X9_add_1_1 (ta : Nat) (x2 : Int) (A : St) (z : Int) (u : St) : Prop := r_X9_add_1_1 ta x2 A z u ∧ IK u ∧ fk [52, 54, 55, 56, 57, 58, 83, 85, 86, 87, 88, 89] [] A u ∧ ((0 ≤ z ∧ z ≤ 1) ∧ (z = 1 → 1 ≤ u (ta + 1) (1 : Int).toNat))
def ws_kc_X9_add_1_1 : List Cond := .code yX9_add cX9_add 3 (some .boolean) :: WY
set_option maxHeartbeats 4000000 in
set_option maxRecDepth 100000 in
theorem kc_X9_add_1_1 (l : Launch) (dC : Nat → ClassId) (dI : Nat → Nat → Nat) (cB cI cJ cZ cQ : ClassId) (aL aS : Nat) (q : Nat → Nat) (A : St) (ta : Nat) (x2 : Int) (hI : IK A) (hta : isT ta) (hx2 : (-2147483648 : Int) ≤ x2 ∧ x2 ≤ 2147483647) : KMi l yX9_add ws_kc_X9_add_1_1 ({ frames := 0, cells := 0, slots := 0, locals := 0 } : Room) aL aS (dC, dI) (tyA cB cI cJ cZ cQ) (WK cB cI cJ cZ cQ q) A [.ref (q ta), .int (iI 1), .int (iI x2)] (fun z u => r_X9_add_1_1 ta x2 A z u ∧ IK u ∧ fk [52, 54, 55, 56, 57, 58, 83, 85, 86, 87, 88, 89] [] A u ∧ ((0 ≤ z ∧ z ≤ 1) ∧ (z = 1 → 1 ≤ u (ta + 1) (1 : Int).toNat))) := by
  refine k_metz (cc := cX9_add) (maxL := 3) WK_adr (plainFor_of_name (by decide +kernel)) rfl (Nat.le_of_ble_eq_true rfl) (fun z u h => h.2.2.2.1) (fun p e s m below meth c Q AS ls hx hb hml hown hts hK hDD hA0 hE RET H locs hP hS hl => ?_)
  have hown : s.vm.findClass RX9 = some m.cls := hown
  have hl : lv_has ls 3 [(0, .ref (q ta)), (1, .int (iI 1)), (2, .int (iI x2))] := hl
  have hiX9 : ∀ w ∈ u_ws RX9 TX9 16, w ∈ ws_kc_X9_add_1_1 := fun w h => List.mem_cons_of_mem _ (wy_layX9 w h)
  refine lv_iload_n hx hb (dk_at dkX9_add_0 0 rfl) rfl (lv_at hl 2 rfl) ?_
  refine lv_iconst (v := iI (-1)) hx hb (dk_at dkX9_add_0 1 rfl) (by decide +kernel) ?_
  refine lv_icmp_eq (tgt := 28) hx hb (dk_at dkX9_add_0 2 rfl) (by decide) (fun c1 => ?_) (fun c1 => ?_)
  · have c1 : x2 = (-1) := (i_eq hx2 ⟨by decide, by decide⟩).mp c1
    refine lv_iconst (v := iI 0) hx hb (dk_at dkX9_add_1 0 rfl) (by decide +kernel) ?_
    exact RET 0 _ _ _ _ _ ⟨(u_r_X9_add_1_1 (Or.inl ⟨c1, ⟨rfl, rfl⟩⟩)), hI, fk.rf, ⟨by decide, fun h => absurd h (by decide)⟩⟩ hP hS (dk_at dkX9_add_1 1 rfl)
  · have c1 : ¬ x2 = (-1) := mt (i_eq hx2 ⟨by decide, by decide⟩).mpr c1
    refine lv_iload_n hx hb (dk_at dkX9_add_0 3 rfl) rfl (lv_at hl 1 rfl) ?_
    refine lv_if_lt (tgt := 28) hx hb (dk_at dkX9_add_0 4 rfl) (by decide) (fun c2 => absurd c2 (by decide +kernel)) (fun _ => ?_)
    refine lv_iload_n hx hb (dk_at dkX9_add_0 5 rfl) rfl (lv_at hl 1 rfl) ?_
    refine lv_iconst (v := iI 5) hx hb (dk_at dkX9_add_0 6 rfl) (by decide +kernel) ?_
    refine lv_icmp_ge (tgt := 28) hx hb (dk_at dkX9_add_0 7 rfl) (by decide) (fun c3 => absurd c3 (by decide +kernel)) (fun _ => ?_)
    refine lv_aload_n hx hb (dk_at dkX9_add_0 8 rfl) rfl (lv_at hl 0 rfl) ?_
    refine va_get (D := (dC, dI)) (ci := 9) (v := .ref (q (ta + 1))) (C := RX9) (T := TX9) (N := 16) hx hb hts hiX9 hown hK hP ta (wkT hta) rfl 0 (by decide) (hts _ (List.mem_cons_of_mem _ wkq_0_8)) (fun _ h9 => h9) rfl (dk_at dkX9_add_0 9 rfl) ?_
    refine lv_iload_n hx hb (dk_at dkX9_add_0 10 rfl) rfl (lv_at hl 1 rfl) ?_
    refine x_iald (Wf := WK cB cI cJ cZ cQ q) hx hb hK hP (ta + 1) 1 (wkTc hta) rfl (by decide) (by decide) (dk_at dkX9_add_0 11 rfl) (fun z4 hz4 => ?_)
    have rz4 : (0 : Int) ≤ z4 ∧ z4 ≤ 10 := by rw [hz4]; exact irTc1 hta hI
    have gz4 := Hd.mk hz4
    refine va_getsN hx hb hE.2.2.2.2.2.1 hS hown (va_Nw.use rfl hE.2.2.1) (fun _ h => h) (dk_at dkX9_add_0 12 rfl) ?_
    refine lv_iload_n hx hb (dk_at dkX9_add_0 13 rfl) rfl (lv_at hl 1 rfl) ?_
    refine k_tald hx hb hE.2.2.2.2.2.2 hS (by omega) (by decide) (dk_at dkX9_add_0 14 rfl) (fun z5 hz5 => ?_)
    refine tp_i (y := iI 10) (congrArg iI (hz5.trans (by decide +kernel))) ?_
    refine lv_icmp_lt (tgt := 30) hx hb (dk_at dkX9_add_0 15 rfl) (by decide) (fun c6 => ?_) (fun c6 => ?_)
    · have c6 : z4 < 10 := (i_lt (rb rz4 (by decide) (by decide)) ⟨by decide, by decide⟩).mp c6
      refine lv_aload_n hx hb (dk_at dkX9_add_1 2 rfl) rfl (lv_at hl 0 rfl) ?_
      refine va_get (D := (dC, dI)) (ci := 9) (v := .ref (q (ta + 2))) (C := RX9) (T := TX9) (N := 16) hx hb hts hiX9 hown hK hP ta (wkT hta) rfl 1 (by decide) (hts _ (List.mem_cons_of_mem _ wkq_5_57)) (fun _ h9 => h9) rfl (dk_at dkX9_add_1 3 rfl) ?_
      refine lv_iload_n hx hb (dk_at dkX9_add_1 4 rfl) rfl (lv_at hl 1 rfl) ?_
      refine k_aald (Wf := WK cB cI cJ cZ cQ q) hx hb hK hP (ta + 2) 4 (wkTq hta) rfl (by omega) (by decide) (b := q (ta + 3 + (1 : Int).toNat)) rfl (dk_at dkX9_add_1 5 rfl) ?_
      refine lv_aload_n hx hb (dk_at dkX9_add_1 6 rfl) rfl (lv_at hl 0 rfl) ?_
      refine va_get (D := (dC, dI)) (ci := 9) (v := .ref (q (ta + 1))) (C := RX9) (T := TX9) (N := 16) hx hb hts hiX9 hown hK hP ta (wkT hta) rfl 0 (by decide) (hts _ (List.mem_cons_of_mem _ wkq_0_8)) (fun _ h9 => h9) rfl (dk_at dkX9_add_1 7 rfl) ?_
      refine lv_iload_n hx hb (dk_at dkX9_add_1 8 rfl) rfl (lv_at hl 1 rfl) ?_
      refine x_iald (Wf := WK cB cI cJ cZ cQ q) hx hb hK hP (ta + 1) 1 (wkTc hta) rfl (by decide) (by decide) (dk_at dkX9_add_1 9 rfl) (fun z7 hz7 => ?_)
      have rz7 : (0 : Int) ≤ z7 ∧ z7 ≤ 10 := by rw [hz7]; exact irTc1 hta hI
      have gz7 := Hd.mk hz7
      have ez7 : z7 = z4 := hz7.trans hz4.symm
      refine tp_i (y := iI z4) (congrArg iI ez7) ?_
      refine lv_iload_n hx hb (dk_at dkX9_add_1 10 rfl) rfl (lv_at hl 2 rfl) ?_
      refine k_iast (Wf := WK cB cI cJ cZ cQ q) hx hb hK hP hDD hS (ta + 3 + (1 : Int).toNat) 1 (wkTn hta (i := 1) (by decide)) rfl (by omega) (by decide) (dk_at dkX9_add_1 11 rfl) (wsTn hta (i := 1) (by decide)) (fun H locs A8 hA8 hP hS => ?_)
      have hI := isTn hta (i := 1) (by decide) hA8 hI (show (-2147483648 : Int) ≤ x2 ∧ x2 ≤ 2147483647 from hx2)
      refine lv_aload_n hx hb (dk_at dkX9_add_1 12 rfl) rfl (lv_at hl 0 rfl) ?_
      refine va_get (D := (dC, dI)) (ci := 9) (v := .ref (q (ta + 1))) (C := RX9) (T := TX9) (N := 16) hx hb hts hiX9 hown hK hP ta (wkT hta) rfl 0 (by decide) (hts _ (List.mem_cons_of_mem _ wkq_0_8)) (fun _ h9 => h9) rfl (dk_at dkX9_add_1 13 rfl) ?_
      refine lv_iload_n hx hb (dk_at dkX9_add_1 14 rfl) rfl (lv_at hl 1 rfl) ?_
      refine lv_dup2_11 hx hb (dk_at dkX9_add_1 15 rfl) rfl rfl ?_
      have a9 : ∀ k, A8 (ta + 1) k = A (ta + 1) k := fun k => rd_ne hA8 (by omega) k
      refine x_iald (Wf := WK cB cI cJ cZ cQ q) hx hb hK hP (ta + 1) 1 (wkTc hta) rfl (by decide) (by decide) (dk_at dkX9_add_2 0 rfl) (fun z10 hz10 => ?_)
      have rz10 : (0 : Int) ≤ z10 ∧ z10 ≤ 10 := by rw [hz10]; exact irTc1 hta hI
      have gz10 := Hd.mk hz10
      have hz10 : z10 = A (ta + 1) (1 : Int).toNat := hz10.trans (a9 _)
      have ez10 : z10 = z4 := hz10.trans hz4.symm
      refine tp_i (y := iI z4) (congrArg iI ez10) ?_
      refine lv_iconst (v := iI 1) hx hb (dk_at dkX9_add_2 1 rfl) (by decide +kernel) ?_
      refine x_addv (v := z4 + 1) hx hb (dk_at dkX9_add_2 2 rfl) (by omega) ?_
      refine k_iast (Wf := WK cB cI cJ cZ cQ q) hx hb hK hP hDD hS (ta + 1) 1 (wkTc hta) rfl (by decide) (by decide) (dk_at dkX9_add_2 3 rfl) (wsTc hta) (fun H locs A11 hA11 hP hS => ?_)
      have hI := isTc hta hA11 hI (show (0 : Int) ≤ z4 + 1 ∧ z4 + 1 ≤ 10 from (by omega))
      refine lv_iconst (v := iI 1) hx hb (dk_at dkX9_add_2 4 rfl) (by decide +kernel) ?_
      exact RET 1 _ _ _ _ _ ⟨(u_r_X9_add_1_1 (Or.inr ⟨c1, ⟨z4, gz4.out, (Or.inl ⟨c6, ⟨A8, hA8, ⟨A11, hA11, ⟨rfl, rfl⟩⟩⟩⟩)⟩⟩)), hI, fk.da (fk.da (fk.rf) hA8 (by rcases hta with h | h <;> rw [h] <;> rfl)) hA11 (isT.b2 (o := fun b => List.contains [52, 54, 55, 56, 57, 58, 83, 85, 86, 87, 88, 89] (b + 1)) hta rfl rfl), ⟨by decide, fun _ => by rw [rd_is hA11]; omega⟩⟩ hP hS (dk_at dkX9_add_2 5 rfl)
    · have c6 : ¬ z4 < 10 := mt (i_lt (rb rz4 (by decide) (by decide)) ⟨by decide, by decide⟩).mpr c6
      refine lv_iconst (v := iI 0) hx hb (dk_at dkX9_add_1 0 rfl) (by decide +kernel) ?_
      exact RET 0 _ _ _ _ _ ⟨(u_r_X9_add_1_1 (Or.inr ⟨c1, ⟨z4, gz4.out, (Or.inr ⟨c6, ⟨rfl, rfl⟩⟩)⟩⟩)), hI, fk.rf, ⟨by decide, fun h => absurd h (by decide)⟩⟩ hP hS (dk_at dkX9_add_1 1 rfl)

abbrev tr_r_X9_add_1_2 (ta : Nat) (x2 : Int) (A : St) (z : Int) (u : St) : Prop := (((x2 = (-1)) ∧ (z = 0 ∧ u = A)) ∨ ((¬ x2 = (-1)) ∧ (∃ z4 : Int, z4 = A (ta + 1) (2 : Int).toNat ∧ (((z4 < 4) ∧ (∃ A8 : St, A8 = stA A (ta + 3 + (2 : Int).toNat) (z4).toNat x2 ∧ (∃ A11 : St, A11 = stA A8 (ta + 1) (2 : Int).toNat (z4 + 1) ∧ (z = 1 ∧ u = A11)))) ∨ ((¬ z4 < 4) ∧ (z = 0 ∧ u = A))))))
def r_X9_add_1_2 (ta : Nat) (x2 : Int) (A : St) (z : Int) (u : St) : Prop := tr_r_X9_add_1_2 ta x2 A z u
theorem u_r_X9_add_1_2 {ta : Nat} {x2 : Int} {A : St} {z : Int} {u : St} (h : tr_r_X9_add_1_2 ta x2 A z u) : r_X9_add_1_2 ta x2 A z u := h
def q_X9_add_1_2 (ta : Nat) (x2 : Int) (A : St) (z : Int) (u : St) : Prop := r_X9_add_1_2 ta x2 A z u ∧ IK u ∧ fk [52, 54, 55, 56, 57, 58, 83, 85, 86, 87, 88, 89] [] A u ∧ ((0 ≤ z ∧ z ≤ 1) ∧ (z = 1 → 1 ≤ u (ta + 1) (2 : Int).toNat))
def ws_kc_X9_add_1_2 : List Cond := .code yX9_add cX9_add 3 (some .boolean) :: WY
set_option maxHeartbeats 4000000 in
set_option maxRecDepth 100000 in
theorem kc_X9_add_1_2 (l : Launch) (dC : Nat → ClassId) (dI : Nat → Nat → Nat) (cB cI cJ cZ cQ : ClassId) (aL aS : Nat) (q : Nat → Nat) (A : St) (ta : Nat) (x2 : Int) (hI : IK A) (hta : isT ta) (hx2 : (-2147483648 : Int) ≤ x2 ∧ x2 ≤ 2147483647) : KMi l yX9_add ws_kc_X9_add_1_2 ({ frames := 0, cells := 0, slots := 0, locals := 0 } : Room) aL aS (dC, dI) (tyA cB cI cJ cZ cQ) (WK cB cI cJ cZ cQ q) A [.ref (q ta), .int (iI 2), .int (iI x2)] (fun z u => r_X9_add_1_2 ta x2 A z u ∧ IK u ∧ fk [52, 54, 55, 56, 57, 58, 83, 85, 86, 87, 88, 89] [] A u ∧ ((0 ≤ z ∧ z ≤ 1) ∧ (z = 1 → 1 ≤ u (ta + 1) (2 : Int).toNat))) := by
  refine k_metz (cc := cX9_add) (maxL := 3) WK_adr (plainFor_of_name (by decide +kernel)) rfl (Nat.le_of_ble_eq_true rfl) (fun z u h => h.2.2.2.1) (fun p e s m below meth c Q AS ls hx hb hml hown hts hK hDD hA0 hE RET H locs hP hS hl => ?_)
  have hown : s.vm.findClass RX9 = some m.cls := hown
  have hl : lv_has ls 3 [(0, .ref (q ta)), (1, .int (iI 2)), (2, .int (iI x2))] := hl
  have hiX9 : ∀ w ∈ u_ws RX9 TX9 16, w ∈ ws_kc_X9_add_1_2 := fun w h => List.mem_cons_of_mem _ (wy_layX9 w h)
  refine lv_iload_n hx hb (dk_at dkX9_add_0 0 rfl) rfl (lv_at hl 2 rfl) ?_
  refine lv_iconst (v := iI (-1)) hx hb (dk_at dkX9_add_0 1 rfl) (by decide +kernel) ?_
  refine lv_icmp_eq (tgt := 28) hx hb (dk_at dkX9_add_0 2 rfl) (by decide) (fun c1 => ?_) (fun c1 => ?_)
  · have c1 : x2 = (-1) := (i_eq hx2 ⟨by decide, by decide⟩).mp c1
    refine lv_iconst (v := iI 0) hx hb (dk_at dkX9_add_1 0 rfl) (by decide +kernel) ?_
    exact RET 0 _ _ _ _ _ ⟨(u_r_X9_add_1_2 (Or.inl ⟨c1, ⟨rfl, rfl⟩⟩)), hI, fk.rf, ⟨by decide, fun h => absurd h (by decide)⟩⟩ hP hS (dk_at dkX9_add_1 1 rfl)
  · have c1 : ¬ x2 = (-1) := mt (i_eq hx2 ⟨by decide, by decide⟩).mpr c1
    refine lv_iload_n hx hb (dk_at dkX9_add_0 3 rfl) rfl (lv_at hl 1 rfl) ?_
    refine lv_if_lt (tgt := 28) hx hb (dk_at dkX9_add_0 4 rfl) (by decide) (fun c2 => absurd c2 (by decide +kernel)) (fun _ => ?_)
    refine lv_iload_n hx hb (dk_at dkX9_add_0 5 rfl) rfl (lv_at hl 1 rfl) ?_
    refine lv_iconst (v := iI 5) hx hb (dk_at dkX9_add_0 6 rfl) (by decide +kernel) ?_
    refine lv_icmp_ge (tgt := 28) hx hb (dk_at dkX9_add_0 7 rfl) (by decide) (fun c3 => absurd c3 (by decide +kernel)) (fun _ => ?_)
    refine lv_aload_n hx hb (dk_at dkX9_add_0 8 rfl) rfl (lv_at hl 0 rfl) ?_
    refine va_get (D := (dC, dI)) (ci := 9) (v := .ref (q (ta + 1))) (C := RX9) (T := TX9) (N := 16) hx hb hts hiX9 hown hK hP ta (wkT hta) rfl 0 (by decide) (hts _ (List.mem_cons_of_mem _ wkq_0_8)) (fun _ h9 => h9) rfl (dk_at dkX9_add_0 9 rfl) ?_
    refine lv_iload_n hx hb (dk_at dkX9_add_0 10 rfl) rfl (lv_at hl 1 rfl) ?_
    refine x_iald (Wf := WK cB cI cJ cZ cQ q) hx hb hK hP (ta + 1) 1 (wkTc hta) rfl (by decide) (by decide) (dk_at dkX9_add_0 11 rfl) (fun z4 hz4 => ?_)
    have rz4 : (0 : Int) ≤ z4 ∧ z4 ≤ 4 := by rw [hz4]; exact irTc2 hta hI
    have gz4 := Hd.mk hz4
    refine va_getsN hx hb hE.2.2.2.2.2.1 hS hown (va_Nw.use rfl hE.2.2.1) (fun _ h => h) (dk_at dkX9_add_0 12 rfl) ?_
    refine lv_iload_n hx hb (dk_at dkX9_add_0 13 rfl) rfl (lv_at hl 1 rfl) ?_
    refine k_tald hx hb hE.2.2.2.2.2.2 hS (by omega) (by decide) (dk_at dkX9_add_0 14 rfl) (fun z5 hz5 => ?_)
    refine tp_i (y := iI 4) (congrArg iI (hz5.trans (by decide +kernel))) ?_
    refine lv_icmp_lt (tgt := 30) hx hb (dk_at dkX9_add_0 15 rfl) (by decide) (fun c6 => ?_) (fun c6 => ?_)
    · have c6 : z4 < 4 := (i_lt (rb rz4 (by decide) (by decide)) ⟨by decide, by decide⟩).mp c6
      refine lv_aload_n hx hb (dk_at dkX9_add_1 2 rfl) rfl (lv_at hl 0 rfl) ?_
      refine va_get (D := (dC, dI)) (ci := 9) (v := .ref (q (ta + 2))) (C := RX9) (T := TX9) (N := 16) hx hb hts hiX9 hown hK hP ta (wkT hta) rfl 1 (by decide) (hts _ (List.mem_cons_of_mem _ wkq_5_57)) (fun _ h9 => h9) rfl (dk_at dkX9_add_1 3 rfl) ?_
      refine lv_iload_n hx hb (dk_at dkX9_add_1 4 rfl) rfl (lv_at hl 1 rfl) ?_
      refine k_aald (Wf := WK cB cI cJ cZ cQ q) hx hb hK hP (ta + 2) 4 (wkTq hta) rfl (by omega) (by decide) (b := q (ta + 3 + (2 : Int).toNat)) rfl (dk_at dkX9_add_1 5 rfl) ?_
      refine lv_aload_n hx hb (dk_at dkX9_add_1 6 rfl) rfl (lv_at hl 0 rfl) ?_
      refine va_get (D := (dC, dI)) (ci := 9) (v := .ref (q (ta + 1))) (C := RX9) (T := TX9) (N := 16) hx hb hts hiX9 hown hK hP ta (wkT hta) rfl 0 (by decide) (hts _ (List.mem_cons_of_mem _ wkq_0_8)) (fun _ h9 => h9) rfl (dk_at dkX9_add_1 7 rfl) ?_
      refine lv_iload_n hx hb (dk_at dkX9_add_1 8 rfl) rfl (lv_at hl 1 rfl) ?_
      refine x_iald (Wf := WK cB cI cJ cZ cQ q) hx hb hK hP (ta + 1) 1 (wkTc hta) rfl (by decide) (by decide) (dk_at dkX9_add_1 9 rfl) (fun z7 hz7 => ?_)
      have rz7 : (0 : Int) ≤ z7 ∧ z7 ≤ 4 := by rw [hz7]; exact irTc2 hta hI
      have gz7 := Hd.mk hz7
      have ez7 : z7 = z4 := hz7.trans hz4.symm
      refine tp_i (y := iI z4) (congrArg iI ez7) ?_
      refine lv_iload_n hx hb (dk_at dkX9_add_1 10 rfl) rfl (lv_at hl 2 rfl) ?_
      refine k_iast (Wf := WK cB cI cJ cZ cQ q) hx hb hK hP hDD hS (ta + 3 + (2 : Int).toNat) 1 (wkTn hta (i := 2) (by decide)) rfl (by omega) (by decide) (dk_at dkX9_add_1 11 rfl) (wsTn hta (i := 2) (by decide)) (fun H locs A8 hA8 hP hS => ?_)
      have hI := isTn hta (i := 2) (by decide) hA8 hI (show (-2147483648 : Int) ≤ x2 ∧ x2 ≤ 2147483647 from hx2)
      refine lv_aload_n hx hb (dk_at dkX9_add_1 12 rfl) rfl (lv_at hl 0 rfl) ?_
      refine va_get (D := (dC, dI)) (ci := 9) (v := .ref (q (ta + 1))) (C := RX9) (T := TX9) (N := 16) hx hb hts hiX9 hown hK hP ta (wkT hta) rfl 0 (by decide) (hts _ (List.mem_cons_of_mem _ wkq_0_8)) (fun _ h9 => h9) rfl (dk_at dkX9_add_1 13 rfl) ?_
      refine lv_iload_n hx hb (dk_at dkX9_add_1 14 rfl) rfl (lv_at hl 1 rfl) ?_
      refine lv_dup2_11 hx hb (dk_at dkX9_add_1 15 rfl) rfl rfl ?_
      have a9 : ∀ k, A8 (ta + 1) k = A (ta + 1) k := fun k => rd_ne hA8 (by omega) k
      refine x_iald (Wf := WK cB cI cJ cZ cQ q) hx hb hK hP (ta + 1) 1 (wkTc hta) rfl (by decide) (by decide) (dk_at dkX9_add_2 0 rfl) (fun z10 hz10 => ?_)
      have rz10 : (0 : Int) ≤ z10 ∧ z10 ≤ 4 := by rw [hz10]; exact irTc2 hta hI
      have gz10 := Hd.mk hz10
      have hz10 : z10 = A (ta + 1) (2 : Int).toNat := hz10.trans (a9 _)
      have ez10 : z10 = z4 := hz10.trans hz4.symm
      refine tp_i (y := iI z4) (congrArg iI ez10) ?_
      refine lv_iconst (v := iI 1) hx hb (dk_at dkX9_add_2 1 rfl) (by decide +kernel) ?_
      refine x_addv (v := z4 + 1) hx hb (dk_at dkX9_add_2 2 rfl) (by omega) ?_
      refine k_iast (Wf := WK cB cI cJ cZ cQ q) hx hb hK hP hDD hS (ta + 1) 1 (wkTc hta) rfl (by decide) (by decide) (dk_at dkX9_add_2 3 rfl) (wsTc hta) (fun H locs A11 hA11 hP hS => ?_)
      have hI := isTc hta hA11 hI (show (0 : Int) ≤ z4 + 1 ∧ z4 + 1 ≤ 4 from (by omega))
      refine lv_iconst (v := iI 1) hx hb (dk_at dkX9_add_2 4 rfl) (by decide +kernel) ?_
      exact RET 1 _ _ _ _ _ ⟨(u_r_X9_add_1_2 (Or.inr ⟨c1, ⟨z4, gz4.out, (Or.inl ⟨c6, ⟨A8, hA8, ⟨A11, hA11, ⟨rfl, rfl⟩⟩⟩⟩)⟩⟩)), hI, fk.da (fk.da (fk.rf) hA8 (by rcases hta with h | h <;> rw [h] <;> rfl)) hA11 (isT.b2 (o := fun b => List.contains [52, 54, 55, 56, 57, 58, 83, 85, 86, 87, 88, 89] (b + 1)) hta rfl rfl), ⟨by decide, fun _ => by rw [rd_is hA11]; omega⟩⟩ hP hS (dk_at dkX9_add_2 5 rfl)
    · have c6 : ¬ z4 < 4 := mt (i_lt (rb rz4 (by decide) (by decide)) ⟨by decide, by decide⟩).mpr c6
      refine lv_iconst (v := iI 0) hx hb (dk_at dkX9_add_1 0 rfl) (by decide +kernel) ?_
      exact RET 0 _ _ _ _ _ ⟨(u_r_X9_add_1_2 (Or.inr ⟨c1, ⟨z4, gz4.out, (Or.inr ⟨c6, ⟨rfl, rfl⟩⟩)⟩⟩)), hI, fk.rf, ⟨by decide, fun h => absurd h (by decide)⟩⟩ hP hS (dk_at dkX9_add_1 1 rfl)

abbrev tr_r_X9_add_1_3 (ta : Nat) (x2 : Int) (A : St) (z : Int) (u : St) : Prop := (((x2 = (-1)) ∧ (z = 0 ∧ u = A)) ∨ ((¬ x2 = (-1)) ∧ (∃ z4 : Int, z4 = A (ta + 1) (3 : Int).toNat ∧ (((z4 < 3) ∧ (∃ A8 : St, A8 = stA A (ta + 3 + (3 : Int).toNat) (z4).toNat x2 ∧ (∃ A11 : St, A11 = stA A8 (ta + 1) (3 : Int).toNat (z4 + 1) ∧ (z = 1 ∧ u = A11)))) ∨ ((¬ z4 < 3) ∧ (z = 0 ∧ u = A))))))
def r_X9_add_1_3 (ta : Nat) (x2 : Int) (A : St) (z : Int) (u : St) : Prop := tr_r_X9_add_1_3 ta x2 A z u
theorem u_r_X9_add_1_3 {ta : Nat} {x2 : Int} {A : St} {z : Int} {u : St} (h : tr_r_X9_add_1_3 ta x2 A z u) : r_X9_add_1_3 ta x2 A z u := h
def q_X9_add_1_3 (ta : Nat) (x2 : Int) (A : St) (z : Int) (u : St) : Prop := r_X9_add_1_3 ta x2 A z u ∧ IK u ∧ fk [52, 54, 55, 56, 57, 58, 83, 85, 86, 87, 88, 89] [] A u ∧ ((0 ≤ z ∧ z ≤ 1) ∧ (z = 1 → 1 ≤ u (ta + 1) (3 : Int).toNat))
def ws_kc_X9_add_1_3 : List Cond := .code yX9_add cX9_add 3 (some .boolean) :: WY
set_option maxHeartbeats 4000000 in
set_option maxRecDepth 100000 in
theorem kc_X9_add_1_3 (l : Launch) (dC : Nat → ClassId) (dI : Nat → Nat → Nat) (cB cI cJ cZ cQ : ClassId) (aL aS : Nat) (q : Nat → Nat) (A : St) (ta : Nat) (x2 : Int) (hI : IK A) (hta : isT ta) (hx2 : (-2147483648 : Int) ≤ x2 ∧ x2 ≤ 2147483647) : KMi l yX9_add ws_kc_X9_add_1_3 ({ frames := 0, cells := 0, slots := 0, locals := 0 } : Room) aL aS (dC, dI) (tyA cB cI cJ cZ cQ) (WK cB cI cJ cZ cQ q) A [.ref (q ta), .int (iI 3), .int (iI x2)] (fun z u => r_X9_add_1_3 ta x2 A z u ∧ IK u ∧ fk [52, 54, 55, 56, 57, 58, 83, 85, 86, 87, 88, 89] [] A u ∧ ((0 ≤ z ∧ z ≤ 1) ∧ (z = 1 → 1 ≤ u (ta + 1) (3 : Int).toNat))) := by
  refine k_metz (cc := cX9_add) (maxL := 3) WK_adr (plainFor_of_name (by decide +kernel)) rfl (Nat.le_of_ble_eq_true rfl) (fun z u h => h.2.2.2.1) (fun p e s m below meth c Q AS ls hx hb hml hown hts hK hDD hA0 hE RET H locs hP hS hl => ?_)
  have hown : s.vm.findClass RX9 = some m.cls := hown
  have hl : lv_has ls 3 [(0, .ref (q ta)), (1, .int (iI 3)), (2, .int (iI x2))] := hl
  have hiX9 : ∀ w ∈ u_ws RX9 TX9 16, w ∈ ws_kc_X9_add_1_3 := fun w h => List.mem_cons_of_mem _ (wy_layX9 w h)
  refine lv_iload_n hx hb (dk_at dkX9_add_0 0 rfl) rfl (lv_at hl 2 rfl) ?_
  refine lv_iconst (v := iI (-1)) hx hb (dk_at dkX9_add_0 1 rfl) (by decide +kernel) ?_
  refine lv_icmp_eq (tgt := 28) hx hb (dk_at dkX9_add_0 2 rfl) (by decide) (fun c1 => ?_) (fun c1 => ?_)
  · have c1 : x2 = (-1) := (i_eq hx2 ⟨by decide, by decide⟩).mp c1
    refine lv_iconst (v := iI 0) hx hb (dk_at dkX9_add_1 0 rfl) (by decide +kernel) ?_
    exact RET 0 _ _ _ _ _ ⟨(u_r_X9_add_1_3 (Or.inl ⟨c1, ⟨rfl, rfl⟩⟩)), hI, fk.rf, ⟨by decide, fun h => absurd h (by decide)⟩⟩ hP hS (dk_at dkX9_add_1 1 rfl)
  · have c1 : ¬ x2 = (-1) := mt (i_eq hx2 ⟨by decide, by decide⟩).mpr c1
    refine lv_iload_n hx hb (dk_at dkX9_add_0 3 rfl) rfl (lv_at hl 1 rfl) ?_
    refine lv_if_lt (tgt := 28) hx hb (dk_at dkX9_add_0 4 rfl) (by decide) (fun c2 => absurd c2 (by decide +kernel)) (fun _ => ?_)
    refine lv_iload_n hx hb (dk_at dkX9_add_0 5 rfl) rfl (lv_at hl 1 rfl) ?_
    refine lv_iconst (v := iI 5) hx hb (dk_at dkX9_add_0 6 rfl) (by decide +kernel) ?_
    refine lv_icmp_ge (tgt := 28) hx hb (dk_at dkX9_add_0 7 rfl) (by decide) (fun c3 => absurd c3 (by decide +kernel)) (fun _ => ?_)
    refine lv_aload_n hx hb (dk_at dkX9_add_0 8 rfl) rfl (lv_at hl 0 rfl) ?_
    refine va_get (D := (dC, dI)) (ci := 9) (v := .ref (q (ta + 1))) (C := RX9) (T := TX9) (N := 16) hx hb hts hiX9 hown hK hP ta (wkT hta) rfl 0 (by decide) (hts _ (List.mem_cons_of_mem _ wkq_0_8)) (fun _ h9 => h9) rfl (dk_at dkX9_add_0 9 rfl) ?_
    refine lv_iload_n hx hb (dk_at dkX9_add_0 10 rfl) rfl (lv_at hl 1 rfl) ?_
    refine x_iald (Wf := WK cB cI cJ cZ cQ q) hx hb hK hP (ta + 1) 1 (wkTc hta) rfl (by decide) (by decide) (dk_at dkX9_add_0 11 rfl) (fun z4 hz4 => ?_)
    have rz4 : (0 : Int) ≤ z4 ∧ z4 ≤ 3 := by rw [hz4]; exact irTc3 hta hI
    have gz4 := Hd.mk hz4
    refine va_getsN hx hb hE.2.2.2.2.2.1 hS hown (va_Nw.use rfl hE.2.2.1) (fun _ h => h) (dk_at dkX9_add_0 12 rfl) ?_
    refine lv_iload_n hx hb (dk_at dkX9_add_0 13 rfl) rfl (lv_at hl 1 rfl) ?_
    refine k_tald hx hb hE.2.2.2.2.2.2 hS (by omega) (by decide) (dk_at dkX9_add_0 14 rfl) (fun z5 hz5 => ?_)
    refine tp_i (y := iI 3) (congrArg iI (hz5.trans (by decide +kernel))) ?_
    refine lv_icmp_lt (tgt := 30) hx hb (dk_at dkX9_add_0 15 rfl) (by decide) (fun c6 => ?_) (fun c6 => ?_)
    · have c6 : z4 < 3 := (i_lt (rb rz4 (by decide) (by decide)) ⟨by decide, by decide⟩).mp c6
      refine lv_aload_n hx hb (dk_at dkX9_add_1 2 rfl) rfl (lv_at hl 0 rfl) ?_
      refine va_get (D := (dC, dI)) (ci := 9) (v := .ref (q (ta + 2))) (C := RX9) (T := TX9) (N := 16) hx hb hts hiX9 hown hK hP ta (wkT hta) rfl 1 (by decide) (hts _ (List.mem_cons_of_mem _ wkq_5_57)) (fun _ h9 => h9) rfl (dk_at dkX9_add_1 3 rfl) ?_
      refine lv_iload_n hx hb (dk_at dkX9_add_1 4 rfl) rfl (lv_at hl 1 rfl) ?_
      refine k_aald (Wf := WK cB cI cJ cZ cQ q) hx hb hK hP (ta + 2) 4 (wkTq hta) rfl (by omega) (by decide) (b := q (ta + 3 + (3 : Int).toNat)) rfl (dk_at dkX9_add_1 5 rfl) ?_
      refine lv_aload_n hx hb (dk_at dkX9_add_1 6 rfl) rfl (lv_at hl 0 rfl) ?_
      refine va_get (D := (dC, dI)) (ci := 9) (v := .ref (q (ta + 1))) (C := RX9) (T := TX9) (N := 16) hx hb hts hiX9 hown hK hP ta (wkT hta) rfl 0 (by decide) (hts _ (List.mem_cons_of_mem _ wkq_0_8)) (fun _ h9 => h9) rfl (dk_at dkX9_add_1 7 rfl) ?_
      refine lv_iload_n hx hb (dk_at dkX9_add_1 8 rfl) rfl (lv_at hl 1 rfl) ?_
      refine x_iald (Wf := WK cB cI cJ cZ cQ q) hx hb hK hP (ta + 1) 1 (wkTc hta) rfl (by decide) (by decide) (dk_at dkX9_add_1 9 rfl) (fun z7 hz7 => ?_)
      have rz7 : (0 : Int) ≤ z7 ∧ z7 ≤ 3 := by rw [hz7]; exact irTc3 hta hI
      have gz7 := Hd.mk hz7
      have ez7 : z7 = z4 := hz7.trans hz4.symm
      refine tp_i (y := iI z4) (congrArg iI ez7) ?_
      refine lv_iload_n hx hb (dk_at dkX9_add_1 10 rfl) rfl (lv_at hl 2 rfl) ?_
      refine k_iast (Wf := WK cB cI cJ cZ cQ q) hx hb hK hP hDD hS (ta + 3 + (3 : Int).toNat) 1 (wkTn hta (i := 3) (by decide)) rfl (by omega) (by decide) (dk_at dkX9_add_1 11 rfl) (wsTn hta (i := 3) (by decide)) (fun H locs A8 hA8 hP hS => ?_)
      have hI := isTn hta (i := 3) (by decide) hA8 hI (show (-2147483648 : Int) ≤ x2 ∧ x2 ≤ 2147483647 from hx2)
      refine lv_aload_n hx hb (dk_at dkX9_add_1 12 rfl) rfl (lv_at hl 0 rfl) ?_
      refine va_get (D := (dC, dI)) (ci := 9) (v := .ref (q (ta + 1))) (C := RX9) (T := TX9) (N := 16) hx hb hts hiX9 hown hK hP ta (wkT hta) rfl 0 (by decide) (hts _ (List.mem_cons_of_mem _ wkq_0_8)) (fun _ h9 => h9) rfl (dk_at dkX9_add_1 13 rfl) ?_
      refine lv_iload_n hx hb (dk_at dkX9_add_1 14 rfl) rfl (lv_at hl 1 rfl) ?_
      refine lv_dup2_11 hx hb (dk_at dkX9_add_1 15 rfl) rfl rfl ?_
      have a9 : ∀ k, A8 (ta + 1) k = A (ta + 1) k := fun k => rd_ne hA8 (by omega) k
      refine x_iald (Wf := WK cB cI cJ cZ cQ q) hx hb hK hP (ta + 1) 1 (wkTc hta) rfl (by decide) (by decide) (dk_at dkX9_add_2 0 rfl) (fun z10 hz10 => ?_)
      have rz10 : (0 : Int) ≤ z10 ∧ z10 ≤ 3 := by rw [hz10]; exact irTc3 hta hI
      have gz10 := Hd.mk hz10
      have hz10 : z10 = A (ta + 1) (3 : Int).toNat := hz10.trans (a9 _)
      have ez10 : z10 = z4 := hz10.trans hz4.symm
      refine tp_i (y := iI z4) (congrArg iI ez10) ?_
      refine lv_iconst (v := iI 1) hx hb (dk_at dkX9_add_2 1 rfl) (by decide +kernel) ?_
      refine x_addv (v := z4 + 1) hx hb (dk_at dkX9_add_2 2 rfl) (by omega) ?_
      refine k_iast (Wf := WK cB cI cJ cZ cQ q) hx hb hK hP hDD hS (ta + 1) 1 (wkTc hta) rfl (by decide) (by decide) (dk_at dkX9_add_2 3 rfl) (wsTc hta) (fun H locs A11 hA11 hP hS => ?_)
      have hI := isTc hta hA11 hI (show (0 : Int) ≤ z4 + 1 ∧ z4 + 1 ≤ 3 from (by omega))
      refine lv_iconst (v := iI 1) hx hb (dk_at dkX9_add_2 4 rfl) (by decide +kernel) ?_
      exact RET 1 _ _ _ _ _ ⟨(u_r_X9_add_1_3 (Or.inr ⟨c1, ⟨z4, gz4.out, (Or.inl ⟨c6, ⟨A8, hA8, ⟨A11, hA11, ⟨rfl, rfl⟩⟩⟩⟩)⟩⟩)), hI, fk.da (fk.da (fk.rf) hA8 (by rcases hta with h | h <;> rw [h] <;> rfl)) hA11 (isT.b2 (o := fun b => List.contains [52, 54, 55, 56, 57, 58, 83, 85, 86, 87, 88, 89] (b + 1)) hta rfl rfl), ⟨by decide, fun _ => by rw [rd_is hA11]; omega⟩⟩ hP hS (dk_at dkX9_add_2 5 rfl)
    · have c6 : ¬ z4 < 3 := mt (i_lt (rb rz4 (by decide) (by decide)) ⟨by decide, by decide⟩).mpr c6
      refine lv_iconst (v := iI 0) hx hb (dk_at dkX9_add_1 0 rfl) (by decide +kernel) ?_
      exact RET 0 _ _ _ _ _ ⟨(u_r_X9_add_1_3 (Or.inr ⟨c1, ⟨z4, gz4.out, (Or.inr ⟨c6, ⟨rfl, rfl⟩⟩)⟩⟩)), hI, fk.rf, ⟨by decide, fun h => absurd h (by decide)⟩⟩ hP hS (dk_at dkX9_add_1 1 rfl)

abbrev tr_r_X9_add_1_4 (ta : Nat) (x2 : Int) (A : St) (z : Int) (u : St) : Prop := (((x2 = (-1)) ∧ (z = 0 ∧ u = A)) ∨ ((¬ x2 = (-1)) ∧ (∃ z4 : Int, z4 = A (ta + 1) (4 : Int).toNat ∧ (((z4 < 4) ∧ (∃ A8 : St, A8 = stA A (ta + 3 + (4 : Int).toNat) (z4).toNat x2 ∧ (∃ A11 : St, A11 = stA A8 (ta + 1) (4 : Int).toNat (z4 + 1) ∧ (z = 1 ∧ u = A11)))) ∨ ((¬ z4 < 4) ∧ (z = 0 ∧ u = A))))))
def r_X9_add_1_4 (ta : Nat) (x2 : Int) (A : St) (z : Int) (u : St) : Prop := tr_r_X9_add_1_4 ta x2 A z u
theorem u_r_X9_add_1_4 {ta : Nat} {x2 : Int} {A : St} {z : Int} {u : St} (h : tr_r_X9_add_1_4 ta x2 A z u) : r_X9_add_1_4 ta x2 A z u := h
def q_X9_add_1_4 (ta : Nat) (x2 : Int) (A : St) (z : Int) (u : St) : Prop := r_X9_add_1_4 ta x2 A z u ∧ IK u ∧ fk [52, 54, 55, 56, 57, 58, 83, 85, 86, 87, 88, 89] [] A u ∧ ((0 ≤ z ∧ z ≤ 1) ∧ (z = 1 → 1 ≤ u (ta + 1) (4 : Int).toNat))
def ws_kc_X9_add_1_4 : List Cond := .code yX9_add cX9_add 3 (some .boolean) :: WY
set_option maxHeartbeats 4000000 in
set_option maxRecDepth 100000 in
theorem kc_X9_add_1_4 (l : Launch) (dC : Nat → ClassId) (dI : Nat → Nat → Nat) (cB cI cJ cZ cQ : ClassId) (aL aS : Nat) (q : Nat → Nat) (A : St) (ta : Nat) (x2 : Int) (hI : IK A) (hta : isT ta) (hx2 : (-2147483648 : Int) ≤ x2 ∧ x2 ≤ 2147483647) : KMi l yX9_add ws_kc_X9_add_1_4 ({ frames := 0, cells := 0, slots := 0, locals := 0 } : Room) aL aS (dC, dI) (tyA cB cI cJ cZ cQ) (WK cB cI cJ cZ cQ q) A [.ref (q ta), .int (iI 4), .int (iI x2)] (fun z u => r_X9_add_1_4 ta x2 A z u ∧ IK u ∧ fk [52, 54, 55, 56, 57, 58, 83, 85, 86, 87, 88, 89] [] A u ∧ ((0 ≤ z ∧ z ≤ 1) ∧ (z = 1 → 1 ≤ u (ta + 1) (4 : Int).toNat))) := by
  refine k_metz (cc := cX9_add) (maxL := 3) WK_adr (plainFor_of_name (by decide +kernel)) rfl (Nat.le_of_ble_eq_true rfl) (fun z u h => h.2.2.2.1) (fun p e s m below meth c Q AS ls hx hb hml hown hts hK hDD hA0 hE RET H locs hP hS hl => ?_)
  have hown : s.vm.findClass RX9 = some m.cls := hown
  have hl : lv_has ls 3 [(0, .ref (q ta)), (1, .int (iI 4)), (2, .int (iI x2))] := hl
  have hiX9 : ∀ w ∈ u_ws RX9 TX9 16, w ∈ ws_kc_X9_add_1_4 := fun w h => List.mem_cons_of_mem _ (wy_layX9 w h)
  refine lv_iload_n hx hb (dk_at dkX9_add_0 0 rfl) rfl (lv_at hl 2 rfl) ?_
  refine lv_iconst (v := iI (-1)) hx hb (dk_at dkX9_add_0 1 rfl) (by decide +kernel) ?_
  refine lv_icmp_eq (tgt := 28) hx hb (dk_at dkX9_add_0 2 rfl) (by decide) (fun c1 => ?_) (fun c1 => ?_)
  · have c1 : x2 = (-1) := (i_eq hx2 ⟨by decide, by decide⟩).mp c1
    refine lv_iconst (v := iI 0) hx hb (dk_at dkX9_add_1 0 rfl) (by decide +kernel) ?_
    exact RET 0 _ _ _ _ _ ⟨(u_r_X9_add_1_4 (Or.inl ⟨c1, ⟨rfl, rfl⟩⟩)), hI, fk.rf, ⟨by decide, fun h => absurd h (by decide)⟩⟩ hP hS (dk_at dkX9_add_1 1 rfl)
  · have c1 : ¬ x2 = (-1) := mt (i_eq hx2 ⟨by decide, by decide⟩).mpr c1
    refine lv_iload_n hx hb (dk_at dkX9_add_0 3 rfl) rfl (lv_at hl 1 rfl) ?_
    refine lv_if_lt (tgt := 28) hx hb (dk_at dkX9_add_0 4 rfl) (by decide) (fun c2 => absurd c2 (by decide +kernel)) (fun _ => ?_)
    refine lv_iload_n hx hb (dk_at dkX9_add_0 5 rfl) rfl (lv_at hl 1 rfl) ?_
    refine lv_iconst (v := iI 5) hx hb (dk_at dkX9_add_0 6 rfl) (by decide +kernel) ?_
    refine lv_icmp_ge (tgt := 28) hx hb (dk_at dkX9_add_0 7 rfl) (by decide) (fun c3 => absurd c3 (by decide +kernel)) (fun _ => ?_)
    refine lv_aload_n hx hb (dk_at dkX9_add_0 8 rfl) rfl (lv_at hl 0 rfl) ?_
    refine va_get (D := (dC, dI)) (ci := 9) (v := .ref (q (ta + 1))) (C := RX9) (T := TX9) (N := 16) hx hb hts hiX9 hown hK hP ta (wkT hta) rfl 0 (by decide) (hts _ (List.mem_cons_of_mem _ wkq_0_8)) (fun _ h9 => h9) rfl (dk_at dkX9_add_0 9 rfl) ?_
    refine lv_iload_n hx hb (dk_at dkX9_add_0 10 rfl) rfl (lv_at hl 1 rfl) ?_
    refine x_iald (Wf := WK cB cI cJ cZ cQ q) hx hb hK hP (ta + 1) 1 (wkTc hta) rfl (by decide) (by decide) (dk_at dkX9_add_0 11 rfl) (fun z4 hz4 => ?_)
    have rz4 : (0 : Int) ≤ z4 ∧ z4 ≤ 4 := by rw [hz4]; exact irTc4 hta hI
    have gz4 := Hd.mk hz4
    refine va_getsN hx hb hE.2.2.2.2.2.1 hS hown (va_Nw.use rfl hE.2.2.1) (fun _ h => h) (dk_at dkX9_add_0 12 rfl) ?_
    refine lv_iload_n hx hb (dk_at dkX9_add_0 13 rfl) rfl (lv_at hl 1 rfl) ?_
    refine k_tald hx hb hE.2.2.2.2.2.2 hS (by omega) (by decide) (dk_at dkX9_add_0 14 rfl) (fun z5 hz5 => ?_)
    refine tp_i (y := iI 4) (congrArg iI (hz5.trans (by decide +kernel))) ?_
    refine lv_icmp_lt (tgt := 30) hx hb (dk_at dkX9_add_0 15 rfl) (by decide) (fun c6 => ?_) (fun c6 => ?_)
    · have c6 : z4 < 4 := (i_lt (rb rz4 (by decide) (by decide)) ⟨by decide, by decide⟩).mp c6
      refine lv_aload_n hx hb (dk_at dkX9_add_1 2 rfl) rfl (lv_at hl 0 rfl) ?_
      refine va_get (D := (dC, dI)) (ci := 9) (v := .ref (q (ta + 2))) (C := RX9) (T := TX9) (N := 16) hx hb hts hiX9 hown hK hP ta (wkT hta) rfl 1 (by decide) (hts _ (List.mem_cons_of_mem _ wkq_5_57)) (fun _ h9 => h9) rfl (dk_at dkX9_add_1 3 rfl) ?_
      refine lv_iload_n hx hb (dk_at dkX9_add_1 4 rfl) rfl (lv_at hl 1 rfl) ?_
      refine k_aald (Wf := WK cB cI cJ cZ cQ q) hx hb hK hP (ta + 2) 4 (wkTq hta) rfl (by omega) (by decide) (b := q (ta + 3 + (4 : Int).toNat)) rfl (dk_at dkX9_add_1 5 rfl) ?_
      refine lv_aload_n hx hb (dk_at dkX9_add_1 6 rfl) rfl (lv_at hl 0 rfl) ?_
      refine va_get (D := (dC, dI)) (ci := 9) (v := .ref (q (ta + 1))) (C := RX9) (T := TX9) (N := 16) hx hb hts hiX9 hown hK hP ta (wkT hta) rfl 0 (by decide) (hts _ (List.mem_cons_of_mem _ wkq_0_8)) (fun _ h9 => h9) rfl (dk_at dkX9_add_1 7 rfl) ?_
      refine lv_iload_n hx hb (dk_at dkX9_add_1 8 rfl) rfl (lv_at hl 1 rfl) ?_
      refine x_iald (Wf := WK cB cI cJ cZ cQ q) hx hb hK hP (ta + 1) 1 (wkTc hta) rfl (by decide) (by decide) (dk_at dkX9_add_1 9 rfl) (fun z7 hz7 => ?_)
      have rz7 : (0 : Int) ≤ z7 ∧ z7 ≤ 4 := by rw [hz7]; exact irTc4 hta hI
      have gz7 := Hd.mk hz7
      have ez7 : z7 = z4 := hz7.trans hz4.symm
      refine tp_i (y := iI z4) (congrArg iI ez7) ?_
      refine lv_iload_n hx hb (dk_at dkX9_add_1 10 rfl) rfl (lv_at hl 2 rfl) ?_
      refine k_iast (Wf := WK cB cI cJ cZ cQ q) hx hb hK hP hDD hS (ta + 3 + (4 : Int).toNat) 1 (wkTn hta (i := 4) (by decide)) rfl (by omega) (by decide) (dk_at dkX9_add_1 11 rfl) (wsTn hta (i := 4) (by decide)) (fun H locs A8 hA8 hP hS => ?_)
      have hI := isTn hta (i := 4) (by decide) hA8 hI (show (-2147483648 : Int) ≤ x2 ∧ x2 ≤ 2147483647 from hx2)
      refine lv_aload_n hx hb (dk_at dkX9_add_1 12 rfl) rfl (lv_at hl 0 rfl) ?_
      refine va_get (D := (dC, dI)) (ci := 9) (v := .ref (q (ta + 1))) (C := RX9) (T := TX9) (N := 16) hx hb hts hiX9 hown hK hP ta (wkT hta) rfl 0 (by decide) (hts _ (List.mem_cons_of_mem _ wkq_0_8)) (fun _ h9 => h9) rfl (dk_at dkX9_add_1 13 rfl) ?_
      refine lv_iload_n hx hb (dk_at dkX9_add_1 14 rfl) rfl (lv_at hl 1 rfl) ?_
      refine lv_dup2_11 hx hb (dk_at dkX9_add_1 15 rfl) rfl rfl ?_
      have a9 : ∀ k, A8 (ta + 1) k = A (ta + 1) k := fun k => rd_ne hA8 (by omega) k
      refine x_iald (Wf := WK cB cI cJ cZ cQ q) hx hb hK hP (ta + 1) 1 (wkTc hta) rfl (by decide) (by decide) (dk_at dkX9_add_2 0 rfl) (fun z10 hz10 => ?_)
      have rz10 : (0 : Int) ≤ z10 ∧ z10 ≤ 4 := by rw [hz10]; exact irTc4 hta hI
      have gz10 := Hd.mk hz10
      have hz10 : z10 = A (ta + 1) (4 : Int).toNat := hz10.trans (a9 _)
      have ez10 : z10 = z4 := hz10.trans hz4.symm
      refine tp_i (y := iI z4) (congrArg iI ez10) ?_
      refine lv_iconst (v := iI 1) hx hb (dk_at dkX9_add_2 1 rfl) (by decide +kernel) ?_
      refine x_addv (v := z4 + 1) hx hb (dk_at dkX9_add_2 2 rfl) (by omega) ?_
      refine k_iast (Wf := WK cB cI cJ cZ cQ q) hx hb hK hP hDD hS (ta + 1) 1 (wkTc hta) rfl (by decide) (by decide) (dk_at dkX9_add_2 3 rfl) (wsTc hta) (fun H locs A11 hA11 hP hS => ?_)
      have hI := isTc hta hA11 hI (show (0 : Int) ≤ z4 + 1 ∧ z4 + 1 ≤ 4 from (by omega))
      refine lv_iconst (v := iI 1) hx hb (dk_at dkX9_add_2 4 rfl) (by decide +kernel) ?_
      exact RET 1 _ _ _ _ _ ⟨(u_r_X9_add_1_4 (Or.inr ⟨c1, ⟨z4, gz4.out, (Or.inl ⟨c6, ⟨A8, hA8, ⟨A11, hA11, ⟨rfl, rfl⟩⟩⟩⟩)⟩⟩)), hI, fk.da (fk.da (fk.rf) hA8 (by rcases hta with h | h <;> rw [h] <;> rfl)) hA11 (isT.b2 (o := fun b => List.contains [52, 54, 55, 56, 57, 58, 83, 85, 86, 87, 88, 89] (b + 1)) hta rfl rfl), ⟨by decide, fun _ => by rw [rd_is hA11]; omega⟩⟩ hP hS (dk_at dkX9_add_2 5 rfl)
    · have c6 : ¬ z4 < 4 := mt (i_lt (rb rz4 (by decide) (by decide)) ⟨by decide, by decide⟩).mpr c6
      refine lv_iconst (v := iI 0) hx hb (dk_at dkX9_add_1 0 rfl) (by decide +kernel) ?_
      exact RET 0 _ _ _ _ _ ⟨(u_r_X9_add_1_4 (Or.inr ⟨c1, ⟨z4, gz4.out, (Or.inr ⟨c6, ⟨rfl, rfl⟩⟩)⟩⟩)), hI, fk.rf, ⟨by decide, fun h => absurd h (by decide)⟩⟩ hP hS (dk_at dkX9_add_1 1 rfl)
theorem dkX5_readTown_0 : dkq cX5_readTown [(0, .aload_n 1, 1), (1, .invokevirtual 46, 3), (4, .aload_n 0, 1), (5, .getfield 30, 3), (8, .invokevirtual 51, 3), (11, .aload_n 0, 1), (12, .iconst 0, 1), (13, .putfield 15, 3), (16, .aload_n 0, 1), (17, .iconst (-1), 1), (18, .putfield 19, 3), (21, .iconst 0, 1), (22, .istore_n 2, 1), (23, .iload_n 2, 1), (24, .sipush 1600, 3), (27, .if_icmp .gt 225, 3)] = true := by decide +kernel
theorem dkX5_readTown_1 : dkq cX5_readTown [(30, .aload_n 0, 1), (31, .getfield 30, 3), (34, .invokevirtual 54, 3), (37, .aload_n 0, 1), (38, .getfield 30, 3), (41, .getfield 57, 3), (44, .ifCond .ne 5, 3), (47, .iload_n 2, 1), (48, .ireturn, 1), (49, .aload_n 0, 1), (50, .aload_n 1, 1), (51, .invokevirtual 60, 3), (54, .tableswitch 175 0 11 #[62, 76, 85, 94, 103, 112, 121, 130, 139, 148, 157, 166], 62), (116, .aload_n 1, 1), (117, .iconst 0, 1), (118, .aload_n 0, 1)] = true := by decide +kernel
theorem dkX5_readTown_2 : dkq cX5_readTown [(119, .aload_n 1, 1), (120, .invokevirtual 64, 3), (123, .invokevirtual 67, 3), (126, .istore_n 3, 1), (127, .goto 104, 3), (130, .aload_n 0, 1), (131, .aload_n 1, 1), (132, .invokevirtual 71, 3), (135, .istore_n 3, 1), (136, .goto 95, 3), (139, .aload_n 0, 1), (140, .aload_n 1, 1), (141, .invokevirtual 75, 3), (144, .istore_n 3, 1), (145, .goto 86, 3), (148, .aload_n 0, 1)] = true := by decide +kernel
theorem dkX5_readTown_3 : dkq cX5_readTown [(149, .aload_n 1, 1), (150, .invokevirtual 78, 3), (153, .istore_n 3, 1), (154, .goto 77, 3), (157, .aload_n 0, 1), (158, .aload_n 1, 1), (159, .invokevirtual 81, 3), (162, .istore_n 3, 1), (163, .goto 68, 3), (166, .aload_n 0, 1), (167, .aload_n 1, 1), (168, .invokevirtual 84, 3), (171, .istore_n 3, 1), (172, .goto 59, 3), (175, .aload_n 0, 1), (176, .aload_n 1, 1)] = true := by decide +kernel
theorem dkX5_readTown_4 : dkq cX5_readTown [(177, .invokevirtual 87, 3), (180, .istore_n 3, 1), (181, .goto 50, 3), (184, .aload_n 0, 1), (185, .aload_n 1, 1), (186, .invokevirtual 90, 3), (189, .istore_n 3, 1), (190, .goto 41, 3), (193, .aload_n 0, 1), (194, .aload_n 1, 1), (195, .invokevirtual 93, 3), (198, .istore_n 3, 1), (199, .goto 32, 3), (202, .aload_n 0, 1), (203, .aload_n 1, 1), (204, .invokevirtual 96, 3)] = true := by decide +kernel
theorem dkX5_readTown_5 : dkq cX5_readTown [(207, .istore_n 3, 1), (208, .goto 23, 3), (211, .aload_n 0, 1), (212, .aload_n 1, 1), (213, .invokevirtual 99, 3), (216, .istore_n 3, 1), (217, .goto 14, 3), (220, .aload_n 0, 1), (221, .aload_n 1, 1), (222, .invokevirtual 102, 3), (225, .istore_n 3, 1), (226, .goto 5, 3), (229, .iconst 0, 1), (230, .istore_n 3, 1), (231, .iload_n 3, 1), (232, .ifCond .eq 12, 3)] = true := by decide +kernel
theorem dkX5_readTown_6 : dkq cX5_readTown [(235, .aload_n 0, 1), (236, .bipush 59, 2), (238, .invokevirtual 105, 3), (241, .ifCond .ne 5, 3), (244, .iconst (-1), 1), (245, .ireturn, 1), (246, .iinc 2 1, 3), (249, .goto (-226), 3), (252, .iconst (-1), 1), (253, .ireturn, 1)] = true := by decide +kernel
theorem dkX5_readDoor_0 : dkq cX5_readDoor [(0, .aload_n 0, 1), (1, .aload_n 1, 1), (2, .invokevirtual 64, 3), (5, .istore_n 2, 1), (6, .iload_n 2, 1), (7, .iconst (-1), 1), (8, .if_icmp .ne 7, 3), (11, .iconst (-1), 1), (12, .goto 9, 3), (15, .aload_n 0, 1), (16, .aload_n 1, 1), (17, .iconst 0, 1), (18, .invokevirtual 128, 3), (21, .istore_n 3, 1), (22, .iload_n 3, 1), (23, .iconst (-1), 1)] = true := by decide +kernel
theorem dkX5_readDoor_1 : dkq cX5_readDoor [(24, .if_icmp .ne 7, 3), (27, .iconst (-1), 1), (28, .goto 9, 3), (31, .aload_n 0, 1), (32, .aload_n 1, 1), (33, .iconst 0, 1), (34, .invokevirtual 128, 3), (37, .istore 4, 2), (39, .iload 4, 2), (41, .iconst (-1), 1), (42, .if_icmp .ne 5, 3), (45, .iconst 0, 1), (46, .ireturn, 1), (47, .iload 4, 2), (49, .iload_n 3, 1), (50, .if_icmp .ne 9, 3)] = true := by decide +kernel
theorem dkX5_readDoor_2 : dkq cX5_readDoor [(53, .aload_n 0, 1), (54, .iconst 3, 1), (55, .invokevirtual 132, 3), (58, .ireturn, 1), (59, .aload_n 0, 1), (60, .iconst 1, 1), (61, .bipush 99, 2), (63, .invokevirtual 136, 3), (66, .istore 5, 2), (68, .iload 5, 2), (70, .iconst (-1), 1), (71, .if_icmp .eq 20, 3), (74, .aload_n 1, 1), (75, .iload_n 2, 1), (76, .iload_n 3, 1), (77, .iload 4, 2)] = true := by decide +kernel
theorem dkX5_readDoor_3 : dkq cX5_readDoor [(79, .iload 5, 2), (81, .invokevirtual 140, 3), (84, .ifCond .eq 7, 3), (87, .iconst 1, 1), (88, .goto 4, 3), (91, .iconst 0, 1), (92, .ireturn, 1)] = true := by decide +kernel
theorem dkX5_readBox_0 : dkq cX5_readBox [(0, .aload_n 0, 1), (1, .aload_n 1, 1), (2, .invokevirtual 64, 3), (5, .istore_n 2, 1), (6, .iload_n 2, 1), (7, .iconst (-1), 1), (8, .if_icmp .eq 12, 3), (11, .aload_n 0, 1), (12, .bipush 12, 2), (14, .invokevirtual 144, 3), (17, .ifCond .ne 5, 3), (20, .iconst 0, 1), (21, .ireturn, 1), (22, .aload_n 0, 1), (23, .aload_n 1, 1), (24, .iconst 0, 1)] = true := by decide +kernel
theorem dkX5_readBox_1 : dkq cX5_readBox [(25, .invokevirtual 128, 3), (28, .istore_n 3, 1), (29, .iload_n 3, 1), (30, .iconst (-1), 1), (31, .if_icmp .eq 18, 3), (34, .aload_n 1, 1), (35, .iload_n 2, 1), (36, .iload_n 3, 1), (37, .iload_n 3, 1), (38, .iconst 0, 1), (39, .invokevirtual 140, 3), (42, .ifCond .eq 7, 3), (45, .iconst 1, 1), (46, .goto 4, 3), (49, .iconst 0, 1), (50, .ireturn, 1)] = true := by decide +kernel
theorem dkX5_readKey_0 : dkq cX5_readKey [(0, .aload_n 0, 1), (1, .aload_n 1, 1), (2, .invokevirtual 64, 3), (5, .istore_n 2, 1), (6, .iload_n 2, 1), (7, .iconst (-1), 1), (8, .if_icmp .eq 12, 3), (11, .aload_n 0, 1), (12, .bipush 13, 2), (14, .invokevirtual 144, 3), (17, .ifCond .ne 5, 3), (20, .iconst 0, 1), (21, .ireturn, 1), (22, .aload_n 0, 1), (23, .aload_n 1, 1), (24, .invokevirtual 147, 3)] = true := by decide +kernel
theorem dkX5_readKey_1 : dkq cX5_readKey [(27, .istore_n 3, 1), (28, .iload_n 3, 1), (29, .iconst (-1), 1), (30, .if_icmp .eq 16, 3), (33, .aload_n 1, 1), (34, .iload_n 2, 1), (35, .iload_n 3, 1), (36, .invokevirtual 150, 3), (39, .ifCond .eq 7, 3), (42, .iconst 1, 1), (43, .goto 4, 3), (46, .iconst 0, 1), (47, .ireturn, 1)] = true := by decide +kernel
theorem dkX5_readPerson_0 : dkq cX5_readPerson [(0, .aload_n 0, 1), (1, .aload_n 1, 1), (2, .invokevirtual 64, 3), (5, .istore_n 2, 1), (6, .iload_n 2, 1), (7, .iconst (-1), 1), (8, .if_icmp .eq 12, 3), (11, .aload_n 0, 1), (12, .bipush 12, 2), (14, .invokevirtual 144, 3), (17, .ifCond .ne 5, 3), (20, .iconst 0, 1), (21, .ireturn, 1), (22, .aload_n 0, 1), (23, .aload_n 1, 1), (24, .iconst 0, 1)] = true := by decide +kernel
theorem dkX5_readPerson_1 : dkq cX5_readPerson [(25, .invokevirtual 128, 3), (28, .istore_n 3, 1), (29, .iload_n 3, 1), (30, .iconst (-1), 1), (31, .if_icmp .eq 16, 3), (34, .aload_n 1, 1), (35, .iload_n 2, 1), (36, .iload_n 3, 1), (37, .invokevirtual 153, 3), (40, .ifCond .eq 7, 3), (43, .iconst 1, 1), (44, .goto 4, 3), (47, .iconst 0, 1), (48, .ireturn, 1)] = true := by decide +kernel
theorem dkX5_readThing_0 : dkq cX5_readThing [(0, .aload_n 0, 1), (1, .aload_n 1, 1), (2, .invokevirtual 64, 3), (5, .istore_n 2, 1), (6, .iload_n 2, 1), (7, .iconst (-1), 1), (8, .if_icmp .eq 12, 3), (11, .aload_n 0, 1), (12, .bipush 13, 2), (14, .invokevirtual 144, 3), (17, .ifCond .ne 5, 3), (20, .iconst 0, 1), (21, .ireturn, 1), (22, .aload_n 0, 1), (23, .aload_n 1, 1), (24, .invokevirtual 147, 3)] = true := by decide +kernel
theorem dkX5_readThing_1 : dkq cX5_readThing [(27, .istore_n 3, 1), (28, .iload_n 3, 1), (29, .iconst (-1), 1), (30, .if_icmp .eq 16, 3), (33, .aload_n 1, 1), (34, .iload_n 2, 1), (35, .iload_n 3, 1), (36, .invokevirtual 156, 3), (39, .ifCond .eq 7, 3), (42, .iconst 1, 1), (43, .goto 4, 3), (46, .iconst 0, 1), (47, .ireturn, 1)] = true := by decide +kernel
theorem dkX6_topOf_0 : dkq cX6_topOf [(0, .iload_n 1, 1), (1, .ifCond .lt 24, 3), (4, .iload_n 1, 1), (5, .iconst 4, 1), (6, .if_icmp .ge 19, 3), (9, .aload_n 0, 1), (10, .iload_n 1, 1), (11, .aload_n 0, 1), (12, .getfield 18, 3), (15, .iload_n 1, 1), (16, .iaload, 1), (17, .iconst 1, 1), (18, .isub, 1), (19, .invokevirtual 26, 3), (22, .goto 4, 3), (25, .iconst (-1), 1)] = true := by decide +kernel
theorem dkX6_topOf_1 : dkq cX6_topOf [(26, .ireturn, 1)] = true := by decide +kernel
theorem dkX7_hasRoom_0 : dkq cX7_hasRoom [(0, .aload_n 0, 1), (1, .getfield 15, 3), (4, .bipush 20, 2), (6, .iadd, 1), (7, .sipush 1600, 3), (10, .if_icmp .gt 7, 3), (13, .iconst 1, 1), (14, .goto 4, 3), (17, .iconst 0, 1), (18, .ireturn, 1)] = true := by decide +kernel
theorem dkX7_put_0 : dkq cX7_put [(0, .bipush 24, 2), (2, .istore_n 2, 1), (3, .iload_n 2, 1), (4, .ifCond .lt 49, 3), (7, .aload_n 0, 1), (8, .getfield 15, 3), (11, .ifCond .lt 36, 3), (14, .aload_n 0, 1), (15, .getfield 15, 3), (18, .sipush 1600, 3), (21, .if_icmp .ge 26, 3), (24, .aload_n 0, 1), (25, .getfield 9, 3), (28, .aload_n 0, 1), (29, .getfield 15, 3), (32, .iload_n 1, 1)] = true := by decide +kernel
theorem dkX7_put_1 : dkq cX7_put [(33, .iload_n 2, 1), (34, .ishr, 1), (35, .i2b, 1), (36, .bastore, 1), (37, .aload_n 0, 1), (38, .dup, 1), (39, .getfield 15, 3), (42, .iconst 1, 1), (43, .iadd, 1), (44, .putfield 15, 3), (47, .iinc 2 (-8), 3), (50, .goto (-47), 3), (53, .return_, 1)] = true := by decide +kernel
theorem dkX9_addDoor_0 : dkq cX9_addDoor [(0, .aload_n 0, 1), (1, .iconst 1, 1), (2, .iload_n 1, 1), (3, .invokevirtual 80, 3), (6, .ifCond .ne 5, 3), (9, .iconst 0, 1), (10, .ireturn, 1), (11, .aload_n 0, 1), (12, .getfield 9, 3), (15, .iconst 1, 1), (16, .iaload, 1), (17, .iconst 1, 1), (18, .isub, 1), (19, .istore 5, 2), (21, .aload_n 0, 1), (22, .getfield 20, 3)] = true := by decide +kernel
theorem dkX9_addDoor_1 : dkq cX9_addDoor [(25, .iload 5, 2), (27, .iload_n 2, 1), (28, .iastore, 1), (29, .aload_n 0, 1), (30, .getfield 23, 3), (33, .iload 5, 2), (35, .iload_n 3, 1), (36, .iastore, 1), (37, .aload_n 0, 1), (38, .getfield 26, 3), (41, .iload 5, 2), (43, .iload 4, 2), (45, .iastore, 1), (46, .iconst 1, 1), (47, .ireturn, 1)] = true := by decide +kernel
theorem dkX9_addKey_0 : dkq cX9_addKey [(0, .aload_n 0, 1), (1, .iconst 2, 1), (2, .iload_n 1, 1), (3, .invokevirtual 80, 3), (6, .ifCond .ne 5, 3), (9, .iconst 0, 1), (10, .ireturn, 1), (11, .aload_n 0, 1), (12, .getfield 63, 3), (15, .getfield 84, 3), (18, .aload_n 0, 1), (19, .getfield 9, 3), (22, .iconst 2, 1), (23, .iaload, 1), (24, .iconst 1, 1), (25, .isub, 1)] = true := by decide +kernel
theorem dkX9_addKey_1 : dkq cX9_addKey [(26, .iload_n 2, 1), (27, .iastore, 1), (28, .iconst 1, 1), (29, .ireturn, 1)] = true := by decide +kernel
theorem dkX9_addPerson_0 : dkq cX9_addPerson [(0, .aload_n 0, 1), (1, .iconst 3, 1), (2, .iload_n 1, 1), (3, .invokevirtual 80, 3), (6, .ifCond .ne 5, 3), (9, .iconst 0, 1), (10, .ireturn, 1), (11, .aload_n 0, 1), (12, .getfield 63, 3), (15, .getfield 87, 3), (18, .aload_n 0, 1), (19, .getfield 9, 3), (22, .iconst 3, 1), (23, .iaload, 1), (24, .iconst 1, 1), (25, .isub, 1)] = true := by decide +kernel
theorem dkX9_addPerson_1 : dkq cX9_addPerson [(26, .iload_n 2, 1), (27, .iastore, 1), (28, .iconst 1, 1), (29, .ireturn, 1)] = true := by decide +kernel
theorem dkX9_addThing_0 : dkq cX9_addThing [(0, .aload_n 0, 1), (1, .iconst 4, 1), (2, .iload_n 1, 1), (3, .invokevirtual 80, 3), (6, .ifCond .ne 5, 3), (9, .iconst 0, 1), (10, .ireturn, 1), (11, .aload_n 0, 1), (12, .getfield 29, 3), (15, .aload_n 0, 1), (16, .getfield 9, 3), (19, .iconst 4, 1), (20, .iaload, 1), (21, .iconst 1, 1), (22, .isub, 1), (23, .iload_n 2, 1)] = true := by decide +kernel
theorem dkX9_addThing_1 : dkq cX9_addThing [(24, .iastore, 1), (25, .iconst 1, 1), (26, .ireturn, 1)] = true := by decide +kernel
