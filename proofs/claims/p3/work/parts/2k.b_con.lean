def ws_kc_X9_goThrough : List Cond := .code yX9_goThrough cX9_goThrough 5 (some .int) :: WY
set_option maxHeartbeats 4000000 in
set_option maxRecDepth 100000 in
theorem kc_X9_goThrough (l : Launch) (dC : Nat → ClassId) (dI : Nat → Nat → Nat) (cB cI cJ cZ cQ : ClassId) (aL aS : Nat) (q : Nat → Nat) (A : St) (ta : Nat) (x1 x2 : Int) (hI : IK A) (hta : isT ta) (hx1 : (-2147483648 : Int) ≤ x1 ∧ x1 ≤ 2147483647) (hx2 : (-2147483648 : Int) ≤ x2 ∧ x2 ≤ 2147483647) : KMi l yX9_goThrough ws_kc_X9_goThrough ({ frames := 4, cells := 0, slots := 0, locals := 99 } : Room) aL aS (dC, dI) (tyA cB cI cJ cZ cQ) (WK cB cI cJ cZ cQ q) A [.ref (q ta), .int (iI x1), .int (iI x2)] (fun z u => IK u ∧ fk [33, 42, 72, 74, 103, 105] [] A u ∧ (-2147483648 ≤ z ∧ z ≤ 2147483647)) := by
  refine k_meti (cc := cX9_goThrough) (maxL := 5) WK_adr (plainFor_of_name (by decide +kernel)) rfl (Nat.le_of_ble_eq_true rfl) (fun p e s m below meth c Q AS ls hx hb hml hown hts hK hDD hA0 hE RET H locs hP hS hl => ?_)
  have hown : s.vm.findClass RX9 = some m.cls := hown
  have hl : lv_has ls 5 [(0, .ref (q ta)), (1, .int (iI x1)), (2, .int (iI x2))] := hl
  have hiX9 : ∀ w ∈ u_ws RX9 TX9 16, w ∈ ws_kc_X9_goThrough := fun w h => List.mem_cons_of_mem _ (wy_layX9 w h)
  have hiX6 : ∀ w ∈ u_ws RX6 TX6 4, w ∈ ws_kc_X9_goThrough := fun w h => List.mem_cons_of_mem _ (wy_layX6 w h)
  refine lv_aload_n hx hb dX9_goThrough_0 rfl (lv_at hl 0 rfl) ?_
  refine lv_iconst (v := iI 3) hx hb dX9_goThrough_1 (by decide +kernel) ?_
  refine lv_iload_n hx hb dX9_goThrough_2 rfl (lv_at hl 1 rfl) ?_
  refine k_calli (As := [.int (iI 3), .int (iI x1)]) (rest := []) ⟨hx, hb, hml, hown, hts⟩ hE (kc_X9_isThere_1_3 l dC dI cB cI cJ cZ cQ aL aS q _ ta x1 hI hta hx1) (cwV 2 hts (goodVk (wk_in_2 _ (List.mem_of_getElem? (i := 52) rfl)) (wk_in_0 _ (List.mem_of_getElem? (i := 22) rfl)) (wk_in_0 _ (List.mem_of_getElem? (i := 23) rfl)) (wk_in_0 _ (List.mem_of_getElem? (i := 6) rfl)) (wk_in_0 _ (List.mem_of_getElem? (i := 24) rfl))) rfl rfl rfl (by decide +kernel) ⟨Nat.le_of_ble_eq_true rfl, Nat.le_of_ble_eq_true rfl⟩) hK hDD hA0 hP hS ta 9 (wkT hta) rfl rfl hl.1 (Nat.le_of_ble_eq_true rfl) dX9_goThrough_3 (fun z1 A2 H locs hw3 hP hS => ?_)
  obtain ⟨rfl, hw3⟩ := hw3
  have rz1 : 0 ≤ z1 ∧ z1 ≤ 1 := hw3.1
  have hw3 := hw3.2
  refine lv_if_eq (tgt := 26) hx hb dX9_goThrough_6 (by decide) (fun c4 => ?_) (fun c4 => ?_)
  · have c4 : z1 = 0 := (i_eq0 (rb rz1 (by decide) (by decide))).mp c4
    clear hw3
    refine lv_iconst (v := iI (-1)) hx hb dX9_goThrough_26 (by decide +kernel) ?_
    exact RET (-1) _ _ _ _ _ ⟨hI, fk.rf, ⟨by decide, by decide⟩⟩ hP hS dX9_goThrough_27
  · have c4 : ¬ z1 = 0 := mt (i_eq0 (rb rz1 (by decide) (by decide))).mpr c4
    have hw3b := hw3 (by omega)
    clear hw3
    refine lv_aload_n hx hb dX9_goThrough_9 rfl (lv_at hl 0 rfl) ?_
    refine lv_iconst (v := iI 1) hx hb dX9_goThrough_10 (by decide +kernel) ?_
    refine lv_iload_n hx hb dX9_goThrough_11 rfl (lv_at hl 2 rfl) ?_
    refine k_calli (As := [.int (iI 1), .int (iI x2)]) (rest := []) ⟨hx, hb, hml, hown, hts⟩ hE (kc_X9_isThere_1_1 l dC dI cB cI cJ cZ cQ aL aS q _ ta x2 hI hta hx2) (cwV 2 hts (goodVk (wk_in_2 _ (List.mem_of_getElem? (i := 52) rfl)) (wk_in_0 _ (List.mem_of_getElem? (i := 22) rfl)) (wk_in_0 _ (List.mem_of_getElem? (i := 23) rfl)) (wk_in_0 _ (List.mem_of_getElem? (i := 6) rfl)) (wk_in_0 _ (List.mem_of_getElem? (i := 24) rfl))) rfl rfl rfl (by decide +kernel) ⟨Nat.le_of_ble_eq_true rfl, Nat.le_of_ble_eq_true rfl⟩) hK hDD hA0 hP hS ta 9 (wkT hta) rfl rfl hl.1 (Nat.le_of_ble_eq_true rfl) dX9_goThrough_12 (fun z5 A6 H locs hw7 hP hS => ?_)
    obtain ⟨rfl, hw7⟩ := hw7
    have rz5 : 0 ≤ z5 ∧ z5 ≤ 1 := hw7.1
    have hw7 := hw7.2
    refine lv_if_eq (tgt := 26) hx hb dX9_goThrough_15 (by decide) (fun c8 => ?_) (fun c8 => ?_)
    · have c8 : z5 = 0 := (i_eq0 (rb rz5 (by decide) (by decide))).mp c8
      clear hw7
      refine lv_iconst (v := iI (-1)) hx hb dX9_goThrough_26 (by decide +kernel) ?_
      exact RET (-1) _ _ _ _ _ ⟨hI, fk.rf, ⟨by decide, by decide⟩⟩ hP hS dX9_goThrough_27
    · have c8 : ¬ z5 = 0 := mt (i_eq0 (rb rz5 (by decide) (by decide))).mpr c8
      have hw7b := hw7 (by omega)
      clear hw7
      refine lv_aload_n hx hb dX9_goThrough_18 rfl (lv_at hl 0 rfl) ?_
      refine lv_iload_n hx hb dX9_goThrough_19 rfl (lv_at hl 2 rfl) ?_
      refine k_calli (As := [.int (iI x2)]) (rest := []) ⟨hx, hb, hml, hown, hts⟩ hE (kc_X9_isBox l dC dI cB cI cJ cZ cQ aL aS q _ ta x2 hI hta hx2) (cwV 1 hts (goodVk (wk_in_8 _ (List.mem_of_getElem? (i := 48) rfl)) (wk_in_1 _ (List.mem_of_getElem? (i := 6) rfl)) (wk_in_1 _ (List.mem_of_getElem? (i := 7) rfl)) (wk_in_0 _ (List.mem_of_getElem? (i := 6) rfl)) (wk_in_1 _ (List.mem_of_getElem? (i := 8) rfl))) rfl rfl rfl (by decide +kernel) ⟨Nat.le_of_ble_eq_true rfl, Nat.le_of_ble_eq_true rfl⟩) hK hDD hA0 hP hS ta 9 (wkT hta) rfl rfl hl.1 (Nat.le_of_ble_eq_true rfl) dX9_goThrough_20 (fun z9 A10 H locs hw11 hP hS => ?_)
      obtain ⟨rfl, hw11⟩ := hw11
      have rz9 : 0 ≤ z9 ∧ z9 ≤ 1 := hw11.1
      have hw11 := hw11.2
      refine lv_if_eq (tgt := 28) hx hb dX9_goThrough_23 (by decide) (fun c12 => ?_) (fun c12 => ?_)
      · have c12 : z9 = 0 := (i_eq0 (rb rz9 (by decide) (by decide))).mp c12
        clear hw11
        refine lv_aload_n hx hb dX9_goThrough_28 rfl (lv_at hl 0 rfl) ?_
        refine va_get (D := (dC, dI)) (ci := 9) (v := .ref (q (ta + 22))) (C := RX9) (T := TX9) (N := 16) hx hb hts hiX9 hown hK hP ta (wkT hta) rfl 14 (by decide) (hts _ (List.mem_cons_of_mem _ (wk_in_0 _ (List.mem_of_getElem? (i := 9) rfl)))) (fun _ h9 => h9) rfl dX9_goThrough_29 ?_
        refine va_get (D := (dC, dI)) (ci := 6) (v := .ref (q ((ta + 22) + 1))) (C := RX6) (T := TX6) (N := 4) hx hb hts hiX6 hown hK hP (ta + 22) (wkS hta.s) rfl 0 (by decide) (hts _ (List.mem_cons_of_mem _ (wk_in_6 _ (List.mem_of_getElem? (i := 52) rfl)))) (fun _ h9 => h9) rfl dX9_goThrough_32 ?_
        refine lv_iload_n hx hb dX9_goThrough_35 rfl (lv_at hl 1 rfl) ?_
        refine x_iald (Wf := WK cB cI cJ cZ cQ q) hx hb hK hP ((ta + 22) + 1) 1 (wkSs hta.s) rfl (by omega) (by decide) dX9_goThrough_36 (fun z13 hz13 => ?_)
        have rz13 : (-2147483648 : Int) ≤ z13 ∧ z13 ≤ 2147483647 := by rw [hz13]; exact irSs hta.s hI
        refine lv_istore_n (lv' := [(3, .int (iI z13)), (0, .ref (q ta)), (1, .int (iI x1)), (2, .int (iI x2))]) hx hb dX9_goThrough_37 rfl hl (by decide) rfl (fun ls hl => ?_)
        refine lv_aload_n hx hb dX9_goThrough_38 rfl (lv_at hl 1 rfl) ?_
        refine k_calli (As := []) (rest := []) ⟨hx, hb, hml, hown, hts⟩ hE (kc_X9_shutMask l dC dI cB cI cJ cZ cQ aL aS q _ ta hI hta) (cwV 0 hts (goodVk (wk_in_8 _ (List.mem_of_getElem? (i := 54) rfl)) (wk_in_8 _ (List.mem_of_getElem? (i := 55) rfl)) (wk_in_8 _ (List.mem_of_getElem? (i := 56) rfl)) (wk_in_0 _ (List.mem_of_getElem? (i := 6) rfl)) (wk_in_8 _ (List.mem_of_getElem? (i := 50) rfl))) rfl rfl rfl (by decide +kernel) ⟨Nat.le_of_ble_eq_true rfl, Nat.le_of_ble_eq_true rfl⟩) hK hDD hA0 hP hS ta 9 (wkT hta) rfl rfl hl.1 (Nat.le_of_ble_eq_true rfl) dX9_goThrough_39 (fun z14 A15 H locs hw16 hP hS => ?_)
        obtain ⟨rfl, hw16⟩ := hw16
        refine lv_istore (lv' := [(4, .int (iI z14)), (3, .int (iI z13)), (0, .ref (q ta)), (1, .int (iI x1)), (2, .int (iI x2))]) hx hb dX9_goThrough_42 hl (by decide) rfl (fun ls hl => ?_)
        refine lv_aload_n hx hb dX9_goThrough_44 rfl (lv_at hl 2 rfl) ?_
        refine lv_iload_n hx hb dX9_goThrough_45 rfl (lv_at hl 4 rfl) ?_
        refine lv_iload_n hx hb dX9_goThrough_46 rfl (lv_at hl 1 rfl) ?_
        refine k_calli (As := [.int (iI x2), .int (iI z13)]) (rest := []) ⟨hx, hb, hml, hown, hts⟩ hE (kc_X9_isAt l dC dI cB cI cJ cZ cQ aL aS q _ ta x2 z13 hI hta hx2 rz13) (cwV 2 hts (goodVk (wk_in_8 _ (List.mem_of_getElem? (i := 49) rfl)) (wk_in_1 _ (List.mem_of_getElem? (i := 11) rfl)) (wk_in_1 _ (List.mem_of_getElem? (i := 12) rfl)) (wk_in_0 _ (List.mem_of_getElem? (i := 6) rfl)) (wk_in_1 _ (List.mem_of_getElem? (i := 13) rfl))) rfl rfl rfl (by decide +kernel) ⟨Nat.le_of_ble_eq_true rfl, Nat.le_of_ble_eq_true rfl⟩) hK hDD hA0 hP hS ta 9 (wkT hta) rfl rfl hl.1 (Nat.le_of_ble_eq_true rfl) dX9_goThrough_47 (fun z17 A18 H locs hw19 hP hS => ?_)
        obtain ⟨rfl, hw19⟩ := hw19
        have rz17 : 0 ≤ z17 ∧ z17 ≤ 1 := hw19.1
        have hw19 := hw19.2
        refine lv_if_eq (tgt := 62) hx hb dX9_goThrough_50 (by decide) (fun c20 => ?_) (fun c20 => ?_)
        · have c20 : z17 = 0 := (i_eq0 (rb rz17 (by decide) (by decide))).mp c20
          clear hw19
          refine lv_iconst (v := iI (-1)) hx hb dX9_goThrough_62 (by decide +kernel) ?_
          exact RET (-1) _ _ _ _ _ ⟨hI, fk.rf, ⟨by decide, by decide⟩⟩ hP hS dX9_goThrough_63
        · have c20 : ¬ z17 = 0 := mt (i_eq0 (rb rz17 (by decide) (by decide))).mpr c20
          have hw19b := hw19 (by omega)
          clear hw19
          refine lv_iload hx hb dX9_goThrough_53 (lv_at hl 0 rfl) ?_
          refine lv_iload_n hx hb dX9_goThrough_55 rfl (lv_at hl 4 rfl) ?_
          refine lv_ishr hx hb dX9_goThrough_56 ?_
          refine x_abs (fun z21 hz21 => ?_)
          refine lv_iconst (v := iI 1) hx hb dX9_goThrough_57 (by decide +kernel) ?_
          refine lv_iand hx hb dX9_goThrough_58 ?_
          refine x_and (b := 1) (by omega) (fun z22 hz22 => ?_)
          refine lv_if_eq (tgt := 64) hx hb dX9_goThrough_59 (by decide) (fun c23 => ?_) (fun c23 => ?_)
          · have c23 : z22 = 0 := (i_eq0 (by omega)).mp c23
            refine lv_aload_n hx hb dX9_goThrough_64 rfl (lv_at hl 2 rfl) ?_
            refine lv_iload_n hx hb dX9_goThrough_65 rfl (lv_at hl 4 rfl) ?_
            refine lv_iload_n hx hb dX9_goThrough_66 rfl (lv_at hl 3 rfl) ?_
            refine lv_iload_n hx hb dX9_goThrough_67 rfl (lv_at hl 1 rfl) ?_
            refine lv_aload_n hx hb dX9_goThrough_68 rfl (lv_at hl 2 rfl) ?_
            refine lv_iload_n hx hb dX9_goThrough_69 rfl (lv_at hl 3 rfl) ?_
            refine k_calli (As := [.int (iI x1)]) (rest := [.int (iI z13), .int (iI x1), .int (iI x2), .ref (q ta)]) ⟨hx, hb, hml, hown, hts⟩ hE (kc_X9_keysOf l dC dI cB cI cJ cZ cQ aL aS q _ ta x1 hI hta hx1) (cwV 1 hts (goodVk (wk_in_9 _ (List.mem_of_getElem? (i := 3) rfl)) (wk_in_0 _ (List.mem_of_getElem? (i := 4) rfl)) (wk_in_0 _ (List.mem_of_getElem? (i := 5) rfl)) (wk_in_0 _ (List.mem_of_getElem? (i := 6) rfl)) (wk_in_0 _ (List.mem_of_getElem? (i := 7) rfl))) rfl rfl rfl (by decide +kernel) ⟨Nat.le_of_ble_eq_true rfl, Nat.le_of_ble_eq_true rfl⟩) hK hDD hA0 hP hS ta 9 (wkT hta) rfl rfl hl.1 (Nat.le_of_ble_eq_true rfl) dX9_goThrough_70 (fun z24 A25 H locs hw26 hP hS => ?_)
            obtain ⟨rfl, hw26⟩ := hw26
            refine k_callSi (As := [.int (iI z24)]) (rest := [.int (iI z13), .int (iI x1), .int (iI x2), .ref (q ta)]) ⟨hx, hb, hml, hown, hts⟩ hE (kc_J6_bitCount_0f7a4 l dC dI cB cI cJ cZ cQ aL aS q _ z24 hI hw26) (va_cwS 1 hts (goodSk (wk_in_9 _ (List.mem_of_getElem? (i := 4) rfl)) (wk_in_1 _ (List.mem_of_getElem? (i := 17) rfl)) (wk_in_1 _ (List.mem_of_getElem? (i := 18) rfl)) (wk_in_1 _ (List.mem_of_getElem? (i := 19) rfl))) rfl rfl rfl (by decide +kernel) ⟨Nat.le_of_ble_eq_true rfl, Nat.le_of_ble_eq_true rfl⟩) hK hDD hA0 hP hS rfl hl.1 (Nat.le_of_ble_eq_true rfl) dX9_goThrough_73 (fun z27 A28 H locs hw29 hP hS => ?_)
            obtain ⟨rfl, hw29⟩ := hw29
            refine lv_iload hx hb dX9_goThrough_76 (lv_at hl 0 rfl) ?_
            refine k_callSi (As := [.int (iI z14)]) (rest := [.int (iI z27), .int (iI z13), .int (iI x1), .int (iI x2), .ref (q ta)]) ⟨hx, hb, hml, hown, hts⟩ hE (kc_J6_bitCount_0f7a4 l dC dI cB cI cJ cZ cQ aL aS q _ z14 hI hw16) (va_cwS 1 hts (goodSk (wk_in_9 _ (List.mem_of_getElem? (i := 4) rfl)) (wk_in_1 _ (List.mem_of_getElem? (i := 17) rfl)) (wk_in_1 _ (List.mem_of_getElem? (i := 18) rfl)) (wk_in_1 _ (List.mem_of_getElem? (i := 19) rfl))) rfl rfl rfl (by decide +kernel) ⟨Nat.le_of_ble_eq_true rfl, Nat.le_of_ble_eq_true rfl⟩) hK hDD hA0 hP hS rfl hl.1 (Nat.le_of_ble_eq_true rfl) dX9_goThrough_78 (fun z30 A31 H locs hw32 hP hS => ?_)
            obtain ⟨rfl, hw32⟩ := hw32
            refine k_calli (As := [.int (iI x2), .int (iI x1), .int (iI z13), .int (iI z27), .int (iI z30)]) (rest := []) ⟨hx, hb, hml, hown, hts⟩ hE (kc_X9_isBarred l dC dI cB cI cJ cZ cQ aL aS q _ ta x2 x1 z13 z27 z30 hI hta hx2 hx1 rz13 (rb hw29 (by decide) (by decide)) (rb hw32 (by decide) (by decide))) (cwV 5 hts (goodVk (wk_in_9 _ (List.mem_of_getElem? (i := 5) rfl)) (wk_in_9 _ (List.mem_of_getElem? (i := 6) rfl)) (wk_in_9 _ (List.mem_of_getElem? (i := 7) rfl)) (wk_in_0 _ (List.mem_of_getElem? (i := 6) rfl)) (wk_in_9 _ (List.mem_of_getElem? (i := 0) rfl))) rfl rfl rfl (by decide +kernel) ⟨Nat.le_of_ble_eq_true rfl, Nat.le_of_ble_eq_true rfl⟩) hK hDD hA0 hP hS ta 9 (wkT hta) rfl rfl hl.1 (Nat.le_of_ble_eq_true rfl) dX9_goThrough_81 (fun z33 A34 H locs hw35 hP hS => ?_)
            obtain ⟨hI, hf36, hw35⟩ := hw35
            refine lv_if_eq (tgt := 89) hx hb dX9_goThrough_84 (by decide) (fun c37 => ?_) (fun c37 => ?_)
            · have c37 : z33 = 0 := (i_eq0 (rb hw35 (by decide) (by decide))).mp c37
              refine lv_aload_n hx hb dX9_goThrough_89 rfl (lv_at hl 2 rfl) ?_
              refine va_get (D := (dC, dI)) (ci := 9) (v := .ref (q (ta + 22))) (C := RX9) (T := TX9) (N := 16) hx hb hts hiX9 hown hK hP ta (wkT hta) rfl 14 (by decide) (hts _ (List.mem_cons_of_mem _ (wk_in_0 _ (List.mem_of_getElem? (i := 9) rfl)))) (fun _ h9 => h9) rfl dX9_goThrough_90 ?_
              refine va_get (D := (dC, dI)) (ci := 6) (v := .ref (q ((ta + 22) + 1))) (C := RX6) (T := TX6) (N := 4) hx hb hts hiX6 hown hK hP (ta + 22) (wkS hta.s) rfl 0 (by decide) (hts _ (List.mem_cons_of_mem _ (wk_in_6 _ (List.mem_of_getElem? (i := 52) rfl)))) (fun _ h9 => h9) rfl dX9_goThrough_93 ?_
              refine lv_iload_n hx hb dX9_goThrough_96 rfl (lv_at hl 3 rfl) ?_
              refine lv_aload_n hx hb dX9_goThrough_97 rfl (lv_at hl 2 rfl) ?_
              refine lv_iload_n hx hb dX9_goThrough_98 rfl (lv_at hl 4 rfl) ?_
              refine lv_iload_n hx hb dX9_goThrough_99 rfl (lv_at hl 1 rfl) ?_
              refine k_calli (As := [.int (iI x2), .int (iI z13)]) (rest := [.int (iI x1), .ref (q ((ta + 22) + 1))]) ⟨hx, hb, hml, hown, hts⟩ hE (kc_X9_otherSide l dC dI cB cI cJ cZ cQ aL aS q _ ta x2 z13 hI hta hx2 rz13) (cwV 2 hts (goodVk (wk_in_9 _ (List.mem_of_getElem? (i := 8) rfl)) (wk_in_2 _ (List.mem_of_getElem? (i := 49) rfl)) (wk_in_2 _ (List.mem_of_getElem? (i := 50) rfl)) (wk_in_0 _ (List.mem_of_getElem? (i := 6) rfl)) (wk_in_2 _ (List.mem_of_getElem? (i := 51) rfl))) rfl rfl rfl (by decide +kernel) ⟨Nat.le_of_ble_eq_true rfl, Nat.le_of_ble_eq_true rfl⟩) hK hDD hA0 hP hS ta 9 (wkT hta) rfl rfl hl.1 (Nat.le_of_ble_eq_true rfl) dX9_goThrough_100 (fun z38 A39 H locs hw40 hP hS => ?_)
              obtain ⟨rfl, hw40⟩ := hw40
              refine k_iast (Wf := WK cB cI cJ cZ cQ q) hx hb hK hP hDD hS ((ta + 22) + 1) 1 (wkSs hta.s) rfl (by omega) (by decide) dX9_goThrough_103 (wsSs hta.s) (fun H locs A41 hA41 hP hS => ?_)
              have hI := isSs hta.s hA41 hI (show (-2147483648 : Int) ≤ z38 ∧ z38 ≤ 2147483647 from hw40)
              refine lv_aload_n hx hb dX9_goThrough_104 rfl (lv_at hl 2 rfl) ?_
              refine va_get (D := (dC, dI)) (ci := 9) (v := .ref (q (ta + 22))) (C := RX9) (T := TX9) (N := 16) hx hb hts hiX9 hown hK hP ta (wkT hta) rfl 14 (by decide) (hts _ (List.mem_cons_of_mem _ (wk_in_0 _ (List.mem_of_getElem? (i := 9) rfl)))) (fun _ h9 => h9) rfl dX9_goThrough_105 ?_
              refine va_get (D := (dC, dI)) (ci := 6) (v := .ref (q ((ta + 22) + 1))) (C := RX6) (T := TX6) (N := 4) hx hb hts hiX6 hown hK hP (ta + 22) (wkS hta.s) rfl 0 (by decide) (hts _ (List.mem_cons_of_mem _ (wk_in_6 _ (List.mem_of_getElem? (i := 52) rfl)))) (fun _ h9 => h9) rfl dX9_goThrough_108 ?_
              refine lv_iload_n hx hb dX9_goThrough_111 rfl (lv_at hl 3 rfl) ?_
              refine x_iald (Wf := WK cB cI cJ cZ cQ q) hx hb hK hP ((ta + 22) + 1) 1 (wkSs hta.s) rfl (by omega) (by decide) dX9_goThrough_112 (fun z42 hz42 => ?_)
              have rz42 : (-2147483648 : Int) ≤ z42 ∧ z42 ≤ 2147483647 := by rw [hz42]; exact irSs hta.s hI
              have ez42 : z42 = z38 := hz42.trans (rd_is hA41)
              refine tp_i (y := iI z38) (congrArg iI ez42) ?_
              exact RET z38 _ _ _ _ _ ⟨hI, fk.da (fk.trans (fk.rf) hf36 rfl rfl) hA41 (isS.b2 (o := fun b => List.contains [33, 42, 72, 74, 103, 105] (b + 1)) hta.s rfl rfl rfl rfl), hw40⟩ hP hS dX9_goThrough_113
            · have c37 : ¬ z33 = 0 := mt (i_eq0 (rb hw35 (by decide) (by decide))).mpr c37
              refine lv_iconst (v := iI (-1)) hx hb dX9_goThrough_87 (by decide +kernel) ?_
              exact RET (-1) _ _ _ _ _ ⟨hI, fk.trans (fk.rf) hf36 rfl rfl, ⟨by decide, by decide⟩⟩ hP hS dX9_goThrough_88
          · have c23 : ¬ z22 = 0 := mt (i_eq0 (by omega)).mpr c23
            refine lv_iconst (v := iI (-1)) hx hb dX9_goThrough_62 (by decide +kernel) ?_
            exact RET (-1) _ _ _ _ _ ⟨hI, fk.rf, ⟨by decide, by decide⟩⟩ hP hS dX9_goThrough_63
      · have c12 : ¬ z9 = 0 := mt (i_eq0 (rb rz9 (by decide) (by decide))).mpr c12
        have hw11b := hw11 (by omega)
        clear hw11
        refine lv_iconst (v := iI (-1)) hx hb dX9_goThrough_26 (by decide +kernel) ?_
        exact RET (-1) _ _ _ _ _ ⟨hI, fk.rf, ⟨by decide, by decide⟩⟩ hP hS dX9_goThrough_27

def ws_kc_X9_openWith : List Cond := .code yX9_openWith cX9_openWith 4 (some .int) :: WY
set_option maxHeartbeats 4000000 in
set_option maxRecDepth 100000 in
theorem kc_X9_openWith (l : Launch) (dC : Nat → ClassId) (dI : Nat → Nat → Nat) (cB cI cJ cZ cQ : ClassId) (aL aS : Nat) (q : Nat → Nat) (A : St) (ta : Nat) (x1 x2 : Int) (hI : IK A) (hta : isT ta) (hx1 : (-2147483648 : Int) ≤ x1 ∧ x1 ≤ 2147483647) (hx2 : (-2147483648 : Int) ≤ x2 ∧ x2 ≤ 2147483647) : KMi l yX9_openWith ws_kc_X9_openWith ({ frames := 2, cells := 0, slots := 0, locals := 44 } : Room) aL aS (dC, dI) (tyA cB cI cJ cZ cQ) (WK cB cI cJ cZ cQ q) A [.ref (q ta), .int (iI x1), .int (iI x2)] (fun z u => IK u ∧ fk [35, 44, 76, 107] [] A u ∧ (-2147483648 ≤ z ∧ z ≤ 2147483647)) := by
  refine k_meti (cc := cX9_openWith) (maxL := 4) WK_adr (plainFor_of_name (by decide +kernel)) rfl (Nat.le_of_ble_eq_true rfl) (fun p e s m below meth c Q AS ls hx hb hml hown hts hK hDD hA0 hE RET H locs hP hS hl => ?_)
  have hown : s.vm.findClass RX9 = some m.cls := hown
  have hl : lv_has ls 4 [(0, .ref (q ta)), (1, .int (iI x1)), (2, .int (iI x2))] := hl
  have hiX9 : ∀ w ∈ u_ws RX9 TX9 16, w ∈ ws_kc_X9_openWith := fun w h => List.mem_cons_of_mem _ (wy_layX9 w h)
  have hiX6 : ∀ w ∈ u_ws RX6 TX6 4, w ∈ ws_kc_X9_openWith := fun w h => List.mem_cons_of_mem _ (wy_layX6 w h)
  refine lv_aload_n hx hb dX9_openWith_0 rfl (lv_at hl 0 rfl) ?_
  refine lv_iload_n hx hb dX9_openWith_1 rfl (lv_at hl 1 rfl) ?_
  refine lv_iload_n hx hb dX9_openWith_2 rfl (lv_at hl 2 rfl) ?_
  refine k_calli (As := [.int (iI x1), .int (iI x2)]) (rest := []) ⟨hx, hb, hml, hown, hts⟩ hE (kc_X9_holdsKey l dC dI cB cI cJ cZ cQ aL aS q _ ta x1 x2 hI hta hx1 hx2) (cwV 2 hts (goodVk (wk_in_9 _ (List.mem_of_getElem? (i := 10) rfl)) (wk_in_9 _ (List.mem_of_getElem? (i := 11) rfl)) (wk_in_9 _ (List.mem_of_getElem? (i := 12) rfl)) (wk_in_0 _ (List.mem_of_getElem? (i := 6) rfl)) (wk_in_8 _ (List.mem_of_getElem? (i := 59) rfl))) rfl rfl rfl (by decide +kernel) ⟨Nat.le_of_ble_eq_true rfl, Nat.le_of_ble_eq_true rfl⟩) hK hDD hA0 hP hS ta 9 (wkT hta) rfl rfl hl.1 (Nat.le_of_ble_eq_true rfl) dX9_openWith_3 (fun z1 A2 H locs hw3 hP hS => ?_)
  obtain ⟨rfl, hw3⟩ := hw3
  have rz1 : 0 ≤ z1 ∧ z1 ≤ 1 := hw3.1
  have hw3 := hw3.2
  refine lv_if_ne (tgt := 11) hx hb dX9_openWith_6 (by decide) (fun c4 => ?_) (fun c4 => ?_)
  · have c4 : ¬ z1 = 0 := mt (i_eq0 (rb rz1 (by decide) (by decide))).mpr c4
    have hw3b := hw3 (by omega)
    clear hw3
    refine lv_aload_n hx hb dX9_openWith_11 rfl (lv_at hl 0 rfl) ?_
    refine va_get (D := (dC, dI)) (ci := 9) (v := .ref (q (ta + 22))) (C := RX9) (T := TX9) (N := 16) hx hb hts hiX9 hown hK hP ta (wkT hta) rfl 14 (by decide) (hts _ (List.mem_cons_of_mem _ (wk_in_0 _ (List.mem_of_getElem? (i := 9) rfl)))) (fun _ h9 => h9) rfl dX9_openWith_12 ?_
    refine lv_iload_n hx hb dX9_openWith_15 rfl (lv_at hl 2 rfl) ?_
    refine k_calli (As := [.int (iI x2)]) (rest := []) ⟨hx, hb, hml, hown, hts⟩ hE (kc_X6_topOf l dC dI cB cI cJ cZ cQ aL aS q _ (ta + 22) x2 hI hta.s hx2) (cwV 1 hts (goodVk (wk_in_9 _ (List.mem_of_getElem? (i := 13) rfl)) (wk_in_9 _ (List.mem_of_getElem? (i := 14) rfl)) (wk_in_9 _ (List.mem_of_getElem? (i := 15) rfl)) (wk_in_0 _ (List.mem_of_getElem? (i := 52) rfl)) (wk_in_8 _ (List.mem_of_getElem? (i := 44) rfl))) rfl rfl rfl (by decide +kernel) ⟨Nat.le_of_ble_eq_true rfl, Nat.le_of_ble_eq_true rfl⟩) hK hDD hA0 hP hS (ta + 22) 6 (wkS hta.s) rfl rfl hl.1 (Nat.le_of_ble_eq_true rfl) dX9_openWith_16 (fun z5 A6 H locs hw7 hP hS => ?_)
    obtain ⟨rfl, hw7⟩ := hw7
    refine lv_istore_n (lv' := [(3, .int (iI z5)), (0, .ref (q ta)), (1, .int (iI x1)), (2, .int (iI x2))]) hx hb dX9_openWith_19 rfl hl (by decide) rfl (fun ls hl => ?_)
    refine lv_iload_n hx hb dX9_openWith_20 rfl (lv_at hl 0 rfl) ?_
    refine lv_iconst (v := iI (-1)) hx hb dX9_openWith_21 (by decide +kernel) ?_
    refine lv_icmp_eq (tgt := 42) hx hb dX9_openWith_22 (by decide) (fun c8 => ?_) (fun c8 => ?_)
    · have c8 : z5 = (-1) := (i_eq (by omega) ⟨by decide, by decide⟩).mp c8
      refine lv_iconst (v := iI (-1)) hx hb dX9_openWith_42 (by decide +kernel) ?_
      exact RET (-1) _ _ _ _ _ ⟨hI, fk.rf, ⟨by decide, by decide⟩⟩ hP hS dX9_openWith_43
    · have c8 : ¬ z5 = (-1) := mt (i_eq (by omega) ⟨by decide, by decide⟩).mpr c8
      refine lv_aload_n hx hb dX9_openWith_25 rfl (lv_at hl 1 rfl) ?_
      refine lv_iload_n hx hb dX9_openWith_26 rfl (lv_at hl 0 rfl) ?_
      refine lv_aload_n hx hb dX9_openWith_27 rfl (lv_at hl 1 rfl) ?_
      refine va_get (D := (dC, dI)) (ci := 9) (v := .ref (q (ta + 22))) (C := RX9) (T := TX9) (N := 16) hx hb hts hiX9 hown hK hP ta (wkT hta) rfl 14 (by decide) (hts _ (List.mem_cons_of_mem _ (wk_in_0 _ (List.mem_of_getElem? (i := 9) rfl)))) (fun _ h9 => h9) rfl dX9_openWith_28 ?_
      refine va_get (D := (dC, dI)) (ci := 6) (v := .ref (q ((ta + 22) + 1))) (C := RX6) (T := TX6) (N := 4) hx hb hts hiX6 hown hK hP (ta + 22) (wkS hta.s) rfl 0 (by decide) (hts _ (List.mem_cons_of_mem _ (wk_in_6 _ (List.mem_of_getElem? (i := 52) rfl)))) (fun _ h9 => h9) rfl dX9_openWith_31 ?_
      refine lv_iload_n hx hb dX9_openWith_34 rfl (lv_at hl 2 rfl) ?_
      refine x_iald (Wf := WK cB cI cJ cZ cQ q) hx hb hK hP ((ta + 22) + 1) 1 (wkSs hta.s) rfl (by omega) (by decide) dX9_openWith_35 (fun z9 hz9 => ?_)
      have rz9 : (-2147483648 : Int) ≤ z9 ∧ z9 ≤ 2147483647 := by rw [hz9]; exact irSs hta.s hI
      refine k_calli (As := [.int (iI z5), .int (iI z9)]) (rest := []) ⟨hx, hb, hml, hown, hts⟩ hE (kc_X9_isAt l dC dI cB cI cJ cZ cQ aL aS q _ ta z5 z9 hI hta (by omega) rz9) (cwV 2 hts (goodVk (wk_in_8 _ (List.mem_of_getElem? (i := 49) rfl)) (wk_in_1 _ (List.mem_of_getElem? (i := 11) rfl)) (wk_in_1 _ (List.mem_of_getElem? (i := 12) rfl)) (wk_in_0 _ (List.mem_of_getElem? (i := 6) rfl)) (wk_in_1 _ (List.mem_of_getElem? (i := 13) rfl))) rfl rfl rfl (by decide +kernel) ⟨Nat.le_of_ble_eq_true rfl, Nat.le_of_ble_eq_true rfl⟩) hK hDD hA0 hP hS ta 9 (wkT hta) rfl rfl hl.1 (Nat.le_of_ble_eq_true rfl) dX9_openWith_36 (fun z10 A11 H locs hw12 hP hS => ?_)
      obtain ⟨rfl, hw12⟩ := hw12
      have rz10 : 0 ≤ z10 ∧ z10 ≤ 1 := hw12.1
      have hw12 := hw12.2
      refine lv_if_ne (tgt := 44) hx hb dX9_openWith_39 (by decide) (fun c13 => ?_) (fun c13 => ?_)
      · have c13 : ¬ z10 = 0 := mt (i_eq0 (rb rz10 (by decide) (by decide))).mpr c13
        have hw12b := hw12 (by omega)
        clear hw12
        refine lv_aload_n hx hb dX9_openWith_44 rfl (lv_at hl 1 rfl) ?_
        refine va_get (D := (dC, dI)) (ci := 9) (v := .ref (q (ta + 22))) (C := RX9) (T := TX9) (N := 16) hx hb hts hiX9 hown hK hP ta (wkT hta) rfl 14 (by decide) (hts _ (List.mem_cons_of_mem _ (wk_in_0 _ (List.mem_of_getElem? (i := 9) rfl)))) (fun _ h9 => h9) rfl dX9_openWith_45 ?_
        refine va_get (D := (dC, dI)) (ci := 6) (v := .ref (q ((ta + 22) + 3))) (C := RX6) (T := TX6) (N := 4) hx hb hts hiX6 hown hK hP (ta + 22) (wkS hta.s) rfl 2 (by decide) (hts _ (List.mem_cons_of_mem _ (wk_in_5 _ (List.mem_of_getElem? (i := 15) rfl)))) (fun _ h9 => h9) rfl dX9_openWith_48 ?_
        refine lv_iload_n hx hb dX9_openWith_51 rfl (lv_at hl 3 rfl) ?_
        refine lv_dup2_11 hx hb dX9_openWith_52 rfl rfl ?_
        refine x_iald (Wf := WK cB cI cJ cZ cQ q) hx hb hK hP ((ta + 22) + 3) 1 (wkSz hta.s) rfl (by omega) (by decide) dX9_openWith_53 (fun z14 hz14 => ?_)
        have rz14 : (0 : Int) ≤ z14 ∧ z14 ≤ 6 := by rw [hz14]; exact irSz hta.s hI
        refine lv_iconst (v := iI 1) hx hb dX9_openWith_54 (by decide +kernel) ?_
        refine x_subv (v := z14 - 1) hx hb dX9_openWith_55 (by omega) ?_
        refine k_iast (Wf := WK cB cI cJ cZ cQ q) hx hb hK hP hDD hS ((ta + 22) + 3) 1 (wkSz hta.s) rfl (by omega) (by decide) dX9_openWith_56 (wsSz hta.s) (fun H locs A15 hA15 hP hS => ?_)
        have hI := isSz hta.s hA15 hI (show (0 : Int) ≤ z14 - 1 ∧ z14 - 1 ≤ 6 from (by omega))
        refine lv_iload_n hx hb dX9_openWith_57 rfl (lv_at hl 0 rfl) ?_
        exact RET z5 _ _ _ _ _ ⟨hI, fk.da (fk.rf) hA15 (isS.b2 (o := fun b => List.contains [35, 44, 76, 107] (b + 3)) hta.s rfl rfl rfl rfl), (by omega)⟩ hP hS dX9_openWith_58
      · have c13 : z10 = 0 := (i_eq0 (rb rz10 (by decide) (by decide))).mp c13
        clear hw12
        refine lv_iconst (v := iI (-1)) hx hb dX9_openWith_42 (by decide +kernel) ?_
        exact RET (-1) _ _ _ _ _ ⟨hI, fk.rf, ⟨by decide, by decide⟩⟩ hP hS dX9_openWith_43
  · have c4 : z1 = 0 := (i_eq0 (rb rz1 (by decide) (by decide))).mp c4
    clear hw3
    refine lv_iconst (v := iI (-1)) hx hb dX9_openWith_9 (by decide +kernel) ?_
    exact RET (-1) _ _ _ _ _ ⟨hI, fk.rf, ⟨by decide, by decide⟩⟩ hP hS dX9_openWith_10

def ws_kc_X9_shutWith : List Cond := .code yX9_shutWith cX9_shutWith 4 (some .int) :: WY
set_option maxHeartbeats 4000000 in
set_option maxRecDepth 100000 in
theorem kc_X9_shutWith (l : Launch) (dC : Nat → ClassId) (dI : Nat → Nat → Nat) (cB cI cJ cZ cQ : ClassId) (aL aS : Nat) (q : Nat → Nat) (A : St) (ta : Nat) (x1 x2 x3 : Int) (hI : IK A) (hta : isT ta) (hx1 : (-2147483648 : Int) ≤ x1 ∧ x1 ≤ 2147483647) (hx2 : (-2147483648 : Int) ≤ x2 ∧ x2 ≤ 2147483647) (hx3 : (-2147483648 : Int) ≤ x3 ∧ x3 ≤ 2147483647) : KMi l yX9_shutWith ws_kc_X9_shutWith ({ frames := 3, cells := 0, slots := 0, locals := 68 } : Room) aL aS (dC, dI) (tyA cB cI cJ cZ cQ) (WK cB cI cJ cZ cQ q) A [.ref (q ta), .int (iI x1), .int (iI x2), .int (iI x3)] (fun z u => IK u ∧ fk [35, 37, 38, 39, 40, 44, 46, 47, 48, 49, 76, 78, 79, 80, 81, 107, 109, 110, 111, 112] [] A u ∧ (-2147483648 ≤ z ∧ z ≤ 2147483647)) := by
  refine k_meti (cc := cX9_shutWith) (maxL := 4) WK_adr (plainFor_of_name (by decide +kernel)) rfl (Nat.le_of_ble_eq_true rfl) (fun p e s m below meth c Q AS ls hx hb hml hown hts hK hDD hA0 hE RET H locs hP hS hl => ?_)
  have hown : s.vm.findClass RX9 = some m.cls := hown
  have hl : lv_has ls 4 [(0, .ref (q ta)), (1, .int (iI x1)), (2, .int (iI x2)), (3, .int (iI x3))] := hl
  have hiX9 : ∀ w ∈ u_ws RX9 TX9 16, w ∈ ws_kc_X9_shutWith := fun w h => List.mem_cons_of_mem _ (wy_layX9 w h)
  have hiX6 : ∀ w ∈ u_ws RX6 TX6 4, w ∈ ws_kc_X9_shutWith := fun w h => List.mem_cons_of_mem _ (wy_layX6 w h)
  refine lv_aload_n hx hb dX9_shutWith_0 rfl (lv_at hl 0 rfl) ?_
  refine lv_iload_n hx hb dX9_shutWith_1 rfl (lv_at hl 1 rfl) ?_
  refine lv_iload_n hx hb dX9_shutWith_2 rfl (lv_at hl 2 rfl) ?_
  refine k_calli (As := [.int (iI x1), .int (iI x2)]) (rest := []) ⟨hx, hb, hml, hown, hts⟩ hE (kc_X9_holdsKey l dC dI cB cI cJ cZ cQ aL aS q _ ta x1 x2 hI hta hx1 hx2) (cwV 2 hts (goodVk (wk_in_9 _ (List.mem_of_getElem? (i := 10) rfl)) (wk_in_9 _ (List.mem_of_getElem? (i := 11) rfl)) (wk_in_9 _ (List.mem_of_getElem? (i := 12) rfl)) (wk_in_0 _ (List.mem_of_getElem? (i := 6) rfl)) (wk_in_8 _ (List.mem_of_getElem? (i := 59) rfl))) rfl rfl rfl (by decide +kernel) ⟨Nat.le_of_ble_eq_true rfl, Nat.le_of_ble_eq_true rfl⟩) hK hDD hA0 hP hS ta 9 (wkT hta) rfl rfl hl.1 (Nat.le_of_ble_eq_true rfl) dX9_shutWith_3 (fun z1 A2 H locs hw3 hP hS => ?_)
  obtain ⟨rfl, hw3⟩ := hw3
  have rz1 : 0 ≤ z1 ∧ z1 ≤ 1 := hw3.1
  have hw3 := hw3.2
  refine lv_if_eq (tgt := 38) hx hb dX9_shutWith_6 (by decide) (fun c4 => ?_) (fun c4 => ?_)
  · have c4 : z1 = 0 := (i_eq0 (rb rz1 (by decide) (by decide))).mp c4
    clear hw3
    refine lv_iconst (v := iI (-1)) hx hb dX9_shutWith_38 (by decide +kernel) ?_
    exact RET (-1) _ _ _ _ _ ⟨hI, fk.rf, ⟨by decide, by decide⟩⟩ hP hS dX9_shutWith_39
  · have c4 : ¬ z1 = 0 := mt (i_eq0 (rb rz1 (by decide) (by decide))).mpr c4
    have hw3b := hw3 (by omega)
    clear hw3
    refine lv_aload_n hx hb dX9_shutWith_9 rfl (lv_at hl 0 rfl) ?_
    refine lv_iload_n hx hb dX9_shutWith_10 rfl (lv_at hl 3 rfl) ?_
    refine lv_aload_n hx hb dX9_shutWith_11 rfl (lv_at hl 0 rfl) ?_
    refine va_get (D := (dC, dI)) (ci := 9) (v := .ref (q (ta + 22))) (C := RX9) (T := TX9) (N := 16) hx hb hts hiX9 hown hK hP ta (wkT hta) rfl 14 (by decide) (hts _ (List.mem_cons_of_mem _ (wk_in_0 _ (List.mem_of_getElem? (i := 9) rfl)))) (fun _ h9 => h9) rfl dX9_shutWith_12 ?_
    refine va_get (D := (dC, dI)) (ci := 6) (v := .ref (q ((ta + 22) + 1))) (C := RX6) (T := TX6) (N := 4) hx hb hts hiX6 hown hK hP (ta + 22) (wkS hta.s) rfl 0 (by decide) (hts _ (List.mem_cons_of_mem _ (wk_in_6 _ (List.mem_of_getElem? (i := 52) rfl)))) (fun _ h9 => h9) rfl dX9_shutWith_15 ?_
    refine lv_iload_n hx hb dX9_shutWith_18 rfl (lv_at hl 1 rfl) ?_
    refine x_iald (Wf := WK cB cI cJ cZ cQ q) hx hb hK hP ((ta + 22) + 1) 1 (wkSs hta.s) rfl (by omega) (by decide) dX9_shutWith_19 (fun z5 hz5 => ?_)
    have rz5 : (-2147483648 : Int) ≤ z5 ∧ z5 ≤ 2147483647 := by rw [hz5]; exact irSs hta.s hI
    refine k_calli (As := [.int (iI x3), .int (iI z5)]) (rest := []) ⟨hx, hb, hml, hown, hts⟩ hE (kc_X9_isAt l dC dI cB cI cJ cZ cQ aL aS q _ ta x3 z5 hI hta hx3 rz5) (cwV 2 hts (goodVk (wk_in_8 _ (List.mem_of_getElem? (i := 49) rfl)) (wk_in_1 _ (List.mem_of_getElem? (i := 11) rfl)) (wk_in_1 _ (List.mem_of_getElem? (i := 12) rfl)) (wk_in_0 _ (List.mem_of_getElem? (i := 6) rfl)) (wk_in_1 _ (List.mem_of_getElem? (i := 13) rfl))) rfl rfl rfl (by decide +kernel) ⟨Nat.le_of_ble_eq_true rfl, Nat.le_of_ble_eq_true rfl⟩) hK hDD hA0 hP hS ta 9 (wkT hta) rfl rfl hl.1 (Nat.le_of_ble_eq_true rfl) dX9_shutWith_20 (fun z6 A7 H locs hw8 hP hS => ?_)
    obtain ⟨rfl, hw8⟩ := hw8
    have rz6 : 0 ≤ z6 ∧ z6 ≤ 1 := hw8.1
    have hw8 := hw8.2
    refine lv_if_eq (tgt := 38) hx hb dX9_shutWith_23 (by decide) (fun c9 => ?_) (fun c9 => ?_)
    · have c9 : z6 = 0 := (i_eq0 (rb rz6 (by decide) (by decide))).mp c9
      clear hw8
      refine lv_iconst (v := iI (-1)) hx hb dX9_shutWith_38 (by decide +kernel) ?_
      exact RET (-1) _ _ _ _ _ ⟨hI, fk.rf, ⟨by decide, by decide⟩⟩ hP hS dX9_shutWith_39
    · have c9 : ¬ z6 = 0 := mt (i_eq0 (rb rz6 (by decide) (by decide))).mpr c9
      have hw8b := hw8 (by omega)
      clear hw8
      refine lv_aload_n hx hb dX9_shutWith_26 rfl (lv_at hl 0 rfl) ?_
      refine va_get (D := (dC, dI)) (ci := 9) (v := .ref (q (ta + 22))) (C := RX9) (T := TX9) (N := 16) hx hb hts hiX9 hown hK hP ta (wkT hta) rfl 14 (by decide) (hts _ (List.mem_cons_of_mem _ (wk_in_0 _ (List.mem_of_getElem? (i := 9) rfl)))) (fun _ h9 => h9) rfl dX9_shutWith_27 ?_
      refine lv_iload_n hx hb dX9_shutWith_30 rfl (lv_at hl 2 rfl) ?_
      refine lv_iload_n hx hb dX9_shutWith_31 rfl (lv_at hl 3 rfl) ?_
      refine k_calli (As := [.int (iI x2), .int (iI x3)]) (rest := []) ⟨hx, hb, hml, hown, hts⟩ hE (kc_X6_push l dC dI cB cI cJ cZ cQ aL aS q _ (ta + 22) x2 x3 hI hta.s hx2 hx3) (cwV 2 hts (goodVk (wk_in_9 _ (List.mem_of_getElem? (i := 17) rfl)) (wk_in_4 _ (List.mem_of_getElem? (i := 55) rfl)) (wk_in_4 _ (List.mem_of_getElem? (i := 56) rfl)) (wk_in_0 _ (List.mem_of_getElem? (i := 52) rfl)) (wk_in_4 _ (List.mem_of_getElem? (i := 57) rfl))) rfl rfl rfl (by decide +kernel) ⟨Nat.le_of_ble_eq_true rfl, Nat.le_of_ble_eq_true rfl⟩) hK hDD hA0 hP hS (ta + 22) 6 (wkS hta.s) rfl rfl hl.1 (Nat.le_of_ble_eq_true rfl) dX9_shutWith_32 (fun z10 A11 H locs hw12 hP hS => ?_)
      obtain ⟨hI, hf13, hw12⟩ := hw12
      refine lv_if_ne (tgt := 40) hx hb dX9_shutWith_35 (by decide) (fun c14 => ?_) (fun c14 => ?_)
      · have c14 : ¬ z10 = 0 := mt (i_eq0 (rb hw12 (by decide) (by decide))).mpr c14
        refine lv_aload_n hx hb dX9_shutWith_40 rfl (lv_at hl 0 rfl) ?_
        refine va_get (D := (dC, dI)) (ci := 9) (v := .ref (q (ta + 22))) (C := RX9) (T := TX9) (N := 16) hx hb hts hiX9 hown hK hP ta (wkT hta) rfl 14 (by decide) (hts _ (List.mem_cons_of_mem _ (wk_in_0 _ (List.mem_of_getElem? (i := 9) rfl)))) (fun _ h9 => h9) rfl dX9_shutWith_41 ?_
        refine va_get (D := (dC, dI)) (ci := 6) (v := .ref (q ((ta + 22) + 3))) (C := RX6) (T := TX6) (N := 4) hx hb hts hiX6 hown hK hP (ta + 22) (wkS hta.s) rfl 2 (by decide) (hts _ (List.mem_cons_of_mem _ (wk_in_5 _ (List.mem_of_getElem? (i := 15) rfl)))) (fun _ h9 => h9) rfl dX9_shutWith_44 ?_
        refine lv_iload_n hx hb dX9_shutWith_47 rfl (lv_at hl 2 rfl) ?_
        refine x_iald (Wf := WK cB cI cJ cZ cQ q) hx hb hK hP ((ta + 22) + 3) 1 (wkSz hta.s) rfl (by omega) (by decide) dX9_shutWith_48 (fun z15 hz15 => ?_)
        have rz15 : (0 : Int) ≤ z15 ∧ z15 ≤ 6 := by rw [hz15]; exact irSz hta.s hI
        exact RET z15 _ _ _ _ _ ⟨hI, fk.trans (fk.rf) hf13 rfl rfl, (rb rz15 (by decide) (by decide))⟩ hP hS dX9_shutWith_49
      · have c14 : z10 = 0 := (i_eq0 (rb hw12 (by decide) (by decide))).mp c14
        refine lv_iconst (v := iI (-1)) hx hb dX9_shutWith_38 (by decide +kernel) ?_
        exact RET (-1) _ _ _ _ _ ⟨hI, fk.trans (fk.rf) hf13 rfl rfl, ⟨by decide, by decide⟩⟩ hP hS dX9_shutWith_39

def ws_kc_X9_lendTo : List Cond := .code yX9_lendTo cX9_lendTo 4 (some .boolean) :: WY
set_option maxHeartbeats 4000000 in
set_option maxRecDepth 100000 in
theorem kc_X9_lendTo (l : Launch) (dC : Nat → ClassId) (dI : Nat → Nat → Nat) (cB cI cJ cZ cQ : ClassId) (aL aS : Nat) (q : Nat → Nat) (A : St) (ta : Nat) (x1 x2 x3 : Int) (hI : IK A) (hta : isT ta) (hx1 : (-2147483648 : Int) ≤ x1 ∧ x1 ≤ 2147483647) (hx2 : (-2147483648 : Int) ≤ x2 ∧ x2 ≤ 2147483647) (hx3 : (-2147483648 : Int) ≤ x3 ∧ x3 ≤ 2147483647) : KMi l yX9_lendTo ws_kc_X9_lendTo ({ frames := 2, cells := 0, slots := 0, locals := 44 } : Room) aL aS (dC, dI) (tyA cB cI cJ cZ cQ) (WK cB cI cJ cZ cQ q) A [.ref (q ta), .int (iI x1), .int (iI x2), .int (iI x3)] (fun z u => IK u ∧ fk [34, 43, 75, 106] [] A u ∧ (0 ≤ z ∧ z ≤ 1)) := by
  refine k_metz (cc := cX9_lendTo) (maxL := 4) WK_adr (plainFor_of_name (by decide +kernel)) rfl (Nat.le_of_ble_eq_true rfl) (fun z u h => h.2.2) (fun p e s m below meth c Q AS ls hx hb hml hown hts hK hDD hA0 hE RET H locs hP hS hl => ?_)
  have hown : s.vm.findClass RX9 = some m.cls := hown
  have hl : lv_has ls 4 [(0, .ref (q ta)), (1, .int (iI x1)), (2, .int (iI x2)), (3, .int (iI x3))] := hl
  have hiX9 : ∀ w ∈ u_ws RX9 TX9 16, w ∈ ws_kc_X9_lendTo := fun w h => List.mem_cons_of_mem _ (wy_layX9 w h)
  have hiX6 : ∀ w ∈ u_ws RX6 TX6 4, w ∈ ws_kc_X9_lendTo := fun w h => List.mem_cons_of_mem _ (wy_layX6 w h)
  refine lv_aload_n hx hb dX9_lendTo_0 rfl (lv_at hl 0 rfl) ?_
  refine lv_iload_n hx hb dX9_lendTo_1 rfl (lv_at hl 1 rfl) ?_
  refine lv_iload_n hx hb dX9_lendTo_2 rfl (lv_at hl 2 rfl) ?_
  refine k_calli (As := [.int (iI x1), .int (iI x2)]) (rest := []) ⟨hx, hb, hml, hown, hts⟩ hE (kc_X9_holdsKey l dC dI cB cI cJ cZ cQ aL aS q _ ta x1 x2 hI hta hx1 hx2) (cwV 2 hts (goodVk (wk_in_9 _ (List.mem_of_getElem? (i := 10) rfl)) (wk_in_9 _ (List.mem_of_getElem? (i := 11) rfl)) (wk_in_9 _ (List.mem_of_getElem? (i := 12) rfl)) (wk_in_0 _ (List.mem_of_getElem? (i := 6) rfl)) (wk_in_8 _ (List.mem_of_getElem? (i := 59) rfl))) rfl rfl rfl (by decide +kernel) ⟨Nat.le_of_ble_eq_true rfl, Nat.le_of_ble_eq_true rfl⟩) hK hDD hA0 hP hS ta 9 (wkT hta) rfl rfl hl.1 (Nat.le_of_ble_eq_true rfl) dX9_lendTo_3 (fun z1 A2 H locs hw3 hP hS => ?_)
  obtain ⟨rfl, hw3⟩ := hw3
  have rz1 : 0 ≤ z1 ∧ z1 ≤ 1 := hw3.1
  have hw3 := hw3.2
  refine lv_if_eq (tgt := 23) hx hb dX9_lendTo_6 (by decide) (fun c4 => ?_) (fun c4 => ?_)
  · have c4 : z1 = 0 := (i_eq0 (rb rz1 (by decide) (by decide))).mp c4
    clear hw3
    refine lv_iconst (v := iI 0) hx hb dX9_lendTo_23 (by decide +kernel) ?_
    exact RET 0 _ _ _ _ _ ⟨hI, fk.rf, ⟨by decide, by decide⟩⟩ hP hS dX9_lendTo_24
  · have c4 : ¬ z1 = 0 := mt (i_eq0 (rb rz1 (by decide) (by decide))).mpr c4
    have hw3b := hw3 (by omega)
    clear hw3
    refine lv_aload_n hx hb dX9_lendTo_9 rfl (lv_at hl 0 rfl) ?_
    refine lv_iconst (v := iI 3) hx hb dX9_lendTo_10 (by decide +kernel) ?_
    refine lv_iload_n hx hb dX9_lendTo_11 rfl (lv_at hl 3 rfl) ?_
    refine k_calli (As := [.int (iI 3), .int (iI x3)]) (rest := []) ⟨hx, hb, hml, hown, hts⟩ hE (kc_X9_isThere_1_3 l dC dI cB cI cJ cZ cQ aL aS q _ ta x3 hI hta hx3) (cwV 2 hts (goodVk (wk_in_2 _ (List.mem_of_getElem? (i := 52) rfl)) (wk_in_0 _ (List.mem_of_getElem? (i := 22) rfl)) (wk_in_0 _ (List.mem_of_getElem? (i := 23) rfl)) (wk_in_0 _ (List.mem_of_getElem? (i := 6) rfl)) (wk_in_0 _ (List.mem_of_getElem? (i := 24) rfl))) rfl rfl rfl (by decide +kernel) ⟨Nat.le_of_ble_eq_true rfl, Nat.le_of_ble_eq_true rfl⟩) hK hDD hA0 hP hS ta 9 (wkT hta) rfl rfl hl.1 (Nat.le_of_ble_eq_true rfl) dX9_lendTo_12 (fun z5 A6 H locs hw7 hP hS => ?_)
    obtain ⟨rfl, hw7⟩ := hw7
    have rz5 : 0 ≤ z5 ∧ z5 ≤ 1 := hw7.1
    have hw7 := hw7.2
    refine lv_if_eq (tgt := 23) hx hb dX9_lendTo_15 (by decide) (fun c8 => ?_) (fun c8 => ?_)
    · have c8 : z5 = 0 := (i_eq0 (rb rz5 (by decide) (by decide))).mp c8
      clear hw7
      refine lv_iconst (v := iI 0) hx hb dX9_lendTo_23 (by decide +kernel) ?_
      exact RET 0 _ _ _ _ _ ⟨hI, fk.rf, ⟨by decide, by decide⟩⟩ hP hS dX9_lendTo_24
    · have c8 : ¬ z5 = 0 := mt (i_eq0 (rb rz5 (by decide) (by decide))).mpr c8
      have hw7b := hw7 (by omega)
      clear hw7
      refine lv_iload_n hx hb dX9_lendTo_18 rfl (lv_at hl 3 rfl) ?_
      refine lv_iload_n hx hb dX9_lendTo_19 rfl (lv_at hl 1 rfl) ?_
      refine lv_icmp_ne (tgt := 25) hx hb dX9_lendTo_20 (by decide) (fun c9 => ?_) (fun c9 => ?_)
      · have c9 : ¬ x3 = x1 := mt (i_eq hx3 hx1).mpr c9
        refine lv_aload_n hx hb dX9_lendTo_25 rfl (lv_at hl 0 rfl) ?_
        refine va_get (D := (dC, dI)) (ci := 9) (v := .ref (q (ta + 22))) (C := RX9) (T := TX9) (N := 16) hx hb hts hiX9 hown hK hP ta (wkT hta) rfl 14 (by decide) (hts _ (List.mem_cons_of_mem _ (wk_in_0 _ (List.mem_of_getElem? (i := 9) rfl)))) (fun _ h9 => h9) rfl dX9_lendTo_26 ?_
        refine va_get (D := (dC, dI)) (ci := 6) (v := .ref (q ((ta + 22) + 1))) (C := RX6) (T := TX6) (N := 4) hx hb hts hiX6 hown hK hP (ta + 22) (wkS hta.s) rfl 0 (by decide) (hts _ (List.mem_cons_of_mem _ (wk_in_6 _ (List.mem_of_getElem? (i := 52) rfl)))) (fun _ h9 => h9) rfl dX9_lendTo_29 ?_
        refine lv_iload_n hx hb dX9_lendTo_32 rfl (lv_at hl 1 rfl) ?_
        refine x_iald (Wf := WK cB cI cJ cZ cQ q) hx hb hK hP ((ta + 22) + 1) 1 (wkSs hta.s) rfl (by omega) (by decide) dX9_lendTo_33 (fun z10 hz10 => ?_)
        have rz10 : (-2147483648 : Int) ≤ z10 ∧ z10 ≤ 2147483647 := by rw [hz10]; exact irSs hta.s hI
        refine lv_aload_n hx hb dX9_lendTo_34 rfl (lv_at hl 0 rfl) ?_
        refine va_get (D := (dC, dI)) (ci := 9) (v := .ref (q (ta + 22))) (C := RX9) (T := TX9) (N := 16) hx hb hts hiX9 hown hK hP ta (wkT hta) rfl 14 (by decide) (hts _ (List.mem_cons_of_mem _ (wk_in_0 _ (List.mem_of_getElem? (i := 9) rfl)))) (fun _ h9 => h9) rfl dX9_lendTo_35 ?_
        refine va_get (D := (dC, dI)) (ci := 6) (v := .ref (q ((ta + 22) + 1))) (C := RX6) (T := TX6) (N := 4) hx hb hts hiX6 hown hK hP (ta + 22) (wkS hta.s) rfl 0 (by decide) (hts _ (List.mem_cons_of_mem _ (wk_in_6 _ (List.mem_of_getElem? (i := 52) rfl)))) (fun _ h9 => h9) rfl dX9_lendTo_38 ?_
        refine lv_iload_n hx hb dX9_lendTo_41 rfl (lv_at hl 3 rfl) ?_
        refine x_iald (Wf := WK cB cI cJ cZ cQ q) hx hb hK hP ((ta + 22) + 1) 1 (wkSs hta.s) rfl (by omega) (by decide) dX9_lendTo_42 (fun z11 hz11 => ?_)
        have rz11 : (-2147483648 : Int) ≤ z11 ∧ z11 ≤ 2147483647 := by rw [hz11]; exact irSs hta.s hI
        refine lv_icmp_eq (tgt := 48) hx hb dX9_lendTo_43 (by decide) (fun c12 => ?_) (fun c12 => ?_)
        · have c12 : z10 = z11 := (i_eq rz10 rz11).mp c12
          refine lv_aload_n hx hb dX9_lendTo_48 rfl (lv_at hl 0 rfl) ?_
          refine va_get (D := (dC, dI)) (ci := 9) (v := .ref (q (ta + 22))) (C := RX9) (T := TX9) (N := 16) hx hb hts hiX9 hown hK hP ta (wkT hta) rfl 14 (by decide) (hts _ (List.mem_cons_of_mem _ (wk_in_0 _ (List.mem_of_getElem? (i := 9) rfl)))) (fun _ h9 => h9) rfl dX9_lendTo_49 ?_
          refine va_get (D := (dC, dI)) (ci := 6) (v := .ref (q ((ta + 22) + 2))) (C := RX6) (T := TX6) (N := 4) hx hb hts hiX6 hown hK hP (ta + 22) (wkS hta.s) rfl 1 (by decide) (hts _ (List.mem_cons_of_mem _ (wk_in_0 _ (List.mem_of_getElem? (i := 10) rfl)))) (fun _ h9 => h9) rfl dX9_lendTo_52 ?_
          refine lv_iload_n hx hb dX9_lendTo_55 rfl (lv_at hl 2 rfl) ?_
          refine lv_iload_n hx hb dX9_lendTo_56 rfl (lv_at hl 3 rfl) ?_
          refine k_iast (Wf := WK cB cI cJ cZ cQ q) hx hb hK hP hDD hS ((ta + 22) + 2) 1 (wkSw hta.s) rfl (by omega) (by decide) dX9_lendTo_57 (wsSw hta.s) (fun H locs A13 hA13 hP hS => ?_)
          have hI := isSw hta.s hA13 hI (show (-2147483648 : Int) ≤ x3 ∧ x3 ≤ 2147483647 from hx3)
          refine lv_iconst (v := iI 1) hx hb dX9_lendTo_58 (by decide +kernel) ?_
          exact RET 1 _ _ _ _ _ ⟨hI, fk.da (fk.rf) hA13 (isS.b2 (o := fun b => List.contains [34, 43, 75, 106] (b + 2)) hta.s rfl rfl rfl rfl), ⟨by decide, by decide⟩⟩ hP hS dX9_lendTo_59
        · have c12 : ¬ z10 = z11 := mt (i_eq rz10 rz11).mpr c12
          refine lv_iconst (v := iI 0) hx hb dX9_lendTo_46 (by decide +kernel) ?_
          exact RET 0 _ _ _ _ _ ⟨hI, fk.rf, ⟨by decide, by decide⟩⟩ hP hS dX9_lendTo_47
      · have c9 : x3 = x1 := (i_eq hx3 hx1).mp c9
        refine lv_iconst (v := iI 0) hx hb dX9_lendTo_23 (by decide +kernel) ?_
        exact RET 0 _ _ _ _ _ ⟨hI, fk.rf, ⟨by decide, by decide⟩⟩ hP hS dX9_lendTo_24

def ws_kc_X9_isOpenBoxAt : List Cond := .code yX9_isOpenBoxAt cX9_isOpenBoxAt 3 (some .boolean) :: WY
set_option maxHeartbeats 4000000 in
set_option maxRecDepth 100000 in
theorem kc_X9_isOpenBoxAt (l : Launch) (dC : Nat → ClassId) (dI : Nat → Nat → Nat) (cB cI cJ cZ cQ : ClassId) (aL aS : Nat) (q : Nat → Nat) (A : St) (ta : Nat) (x1 x2 : Int) (hI : IK A) (hta : isT ta) (hx1 : (-2147483648 : Int) ≤ x1 ∧ x1 ≤ 2147483647) (hx2 : (-2147483648 : Int) ≤ x2 ∧ x2 ≤ 2147483647) : KMi l yX9_isOpenBoxAt ws_kc_X9_isOpenBoxAt ({ frames := 4, cells := 0, slots := 0, locals := 89 } : Room) aL aS (dC, dI) (tyA cB cI cJ cZ cQ) (WK cB cI cJ cZ cQ q) A [.ref (q ta), .int (iI x1), .int (iI x2)] (fun z u => A = u ∧ (0 ≤ z ∧ z ≤ 1)) := by
  refine k_metz (cc := cX9_isOpenBoxAt) (maxL := 3) WK_adr (plainFor_of_name (by decide +kernel)) rfl (Nat.le_of_ble_eq_true rfl) (fun z u h => h.2) (fun p e s m below meth c Q AS ls hx hb hml hown hts hK hDD hA0 hE RET H locs hP hS hl => ?_)
  have hown : s.vm.findClass RX9 = some m.cls := hown
  have hl : lv_has ls 3 [(0, .ref (q ta)), (1, .int (iI x1)), (2, .int (iI x2))] := hl
  refine lv_aload_n hx hb dX9_isOpenBoxAt_0 rfl (lv_at hl 0 rfl) ?_
  refine lv_iload_n hx hb dX9_isOpenBoxAt_1 rfl (lv_at hl 1 rfl) ?_
  refine k_calli (As := [.int (iI x1)]) (rest := []) ⟨hx, hb, hml, hown, hts⟩ hE (kc_X9_isBox l dC dI cB cI cJ cZ cQ aL aS q _ ta x1 hI hta hx1) (cwV 1 hts (goodVk (wk_in_8 _ (List.mem_of_getElem? (i := 48) rfl)) (wk_in_1 _ (List.mem_of_getElem? (i := 6) rfl)) (wk_in_1 _ (List.mem_of_getElem? (i := 7) rfl)) (wk_in_0 _ (List.mem_of_getElem? (i := 6) rfl)) (wk_in_1 _ (List.mem_of_getElem? (i := 8) rfl))) rfl rfl rfl (by decide +kernel) ⟨Nat.le_of_ble_eq_true rfl, Nat.le_of_ble_eq_true rfl⟩) hK hDD hA0 hP hS ta 9 (wkT hta) rfl rfl hl.1 (Nat.le_of_ble_eq_true rfl) dX9_isOpenBoxAt_2 (fun z1 A2 H locs hw3 hP hS => ?_)
  obtain ⟨rfl, hw3⟩ := hw3
  have rz1 : 0 ≤ z1 ∧ z1 ≤ 1 := hw3.1
  have hw3 := hw3.2
  refine lv_if_eq (tgt := 29) hx hb dX9_isOpenBoxAt_5 (by decide) (fun c4 => ?_) (fun c4 => ?_)
  · have c4 : z1 = 0 := (i_eq0 (rb rz1 (by decide) (by decide))).mp c4
    clear hw3
    refine lv_iconst (v := iI 0) hx hb dX9_isOpenBoxAt_29 (by decide +kernel) ?_
    exact RET 0 _ _ _ _ _ ⟨rfl, ⟨by decide, by decide⟩⟩ hP hS dX9_isOpenBoxAt_30
  · have c4 : ¬ z1 = 0 := mt (i_eq0 (rb rz1 (by decide) (by decide))).mpr c4
    have hw3b := hw3 (by omega)
    clear hw3
    refine lv_aload_n hx hb dX9_isOpenBoxAt_8 rfl (lv_at hl 0 rfl) ?_
    refine lv_iload_n hx hb dX9_isOpenBoxAt_9 rfl (lv_at hl 1 rfl) ?_
    refine lv_iload_n hx hb dX9_isOpenBoxAt_10 rfl (lv_at hl 2 rfl) ?_
    refine k_calli (As := [.int (iI x1), .int (iI x2)]) (rest := []) ⟨hx, hb, hml, hown, hts⟩ hE (kc_X9_isAt l dC dI cB cI cJ cZ cQ aL aS q _ ta x1 x2 hI hta hx1 hx2) (cwV 2 hts (goodVk (wk_in_8 _ (List.mem_of_getElem? (i := 49) rfl)) (wk_in_1 _ (List.mem_of_getElem? (i := 11) rfl)) (wk_in_1 _ (List.mem_of_getElem? (i := 12) rfl)) (wk_in_0 _ (List.mem_of_getElem? (i := 6) rfl)) (wk_in_1 _ (List.mem_of_getElem? (i := 13) rfl))) rfl rfl rfl (by decide +kernel) ⟨Nat.le_of_ble_eq_true rfl, Nat.le_of_ble_eq_true rfl⟩) hK hDD hA0 hP hS ta 9 (wkT hta) rfl rfl hl.1 (Nat.le_of_ble_eq_true rfl) dX9_isOpenBoxAt_11 (fun z5 A6 H locs hw7 hP hS => ?_)
    obtain ⟨rfl, hw7⟩ := hw7
    have rz5 : 0 ≤ z5 ∧ z5 ≤ 1 := hw7.1
    have hw7 := hw7.2
    refine lv_if_eq (tgt := 29) hx hb dX9_isOpenBoxAt_14 (by decide) (fun c8 => ?_) (fun c8 => ?_)
    · have c8 : z5 = 0 := (i_eq0 (rb rz5 (by decide) (by decide))).mp c8
      clear hw7
      refine lv_iconst (v := iI 0) hx hb dX9_isOpenBoxAt_29 (by decide +kernel) ?_
      exact RET 0 _ _ _ _ _ ⟨rfl, ⟨by decide, by decide⟩⟩ hP hS dX9_isOpenBoxAt_30
    · have c8 : ¬ z5 = 0 := mt (i_eq0 (rb rz5 (by decide) (by decide))).mpr c8
      have hw7b := hw7 (by omega)
      clear hw7
      refine lv_aload_n hx hb dX9_isOpenBoxAt_17 rfl (lv_at hl 0 rfl) ?_
      refine lv_iload_n hx hb dX9_isOpenBoxAt_18 rfl (lv_at hl 1 rfl) ?_
      refine k_calli (As := [.int (iI x1)]) (rest := []) ⟨hx, hb, hml, hown, hts⟩ hE (kc_X9_isShut l dC dI cB cI cJ cZ cQ aL aS q _ ta x1 hI hta hx1) (cwV 1 hts (goodVk (wk_in_9 _ (List.mem_of_getElem? (i := 24) rfl)) (wk_in_9 _ (List.mem_of_getElem? (i := 25) rfl)) (wk_in_9 _ (List.mem_of_getElem? (i := 26) rfl)) (wk_in_0 _ (List.mem_of_getElem? (i := 6) rfl)) (wk_in_8 _ (List.mem_of_getElem? (i := 53) rfl))) rfl rfl rfl (by decide +kernel) ⟨Nat.le_of_ble_eq_true rfl, Nat.le_of_ble_eq_true rfl⟩) hK hDD hA0 hP hS ta 9 (wkT hta) rfl rfl hl.1 (Nat.le_of_ble_eq_true rfl) dX9_isOpenBoxAt_19 (fun z9 A10 H locs hw11 hP hS => ?_)
      obtain ⟨rfl, hw11⟩ := hw11
      refine lv_if_ne (tgt := 29) hx hb dX9_isOpenBoxAt_22 (by decide) (fun c12 => ?_) (fun c12 => ?_)
      · have c12 : ¬ z9 = 0 := mt (i_eq0 (rb hw11 (by decide) (by decide))).mpr c12
        refine lv_iconst (v := iI 0) hx hb dX9_isOpenBoxAt_29 (by decide +kernel) ?_
        exact RET 0 _ _ _ _ _ ⟨rfl, ⟨by decide, by decide⟩⟩ hP hS dX9_isOpenBoxAt_30
      · have c12 : z9 = 0 := (i_eq0 (rb hw11 (by decide) (by decide))).mp c12
        refine lv_iconst (v := iI 1) hx hb dX9_isOpenBoxAt_25 (by decide +kernel) ?_
        refine lv_goto (tgt := 30) hx hb dX9_isOpenBoxAt_26 (by decide) ?_
        exact RET 1 _ _ _ _ _ ⟨rfl, ⟨by decide, by decide⟩⟩ hP hS dX9_isOpenBoxAt_30

def ws_kc_X9_takeUp : List Cond := .code yX9_takeUp cX9_takeUp 5 (some .boolean) :: WY
set_option maxHeartbeats 4000000 in
set_option maxRecDepth 100000 in
theorem kc_X9_takeUp (l : Launch) (dC : Nat → ClassId) (dI : Nat → Nat → Nat) (cB cI cJ cZ cQ : ClassId) (aL aS : Nat) (q : Nat → Nat) (A : St) (ta : Nat) (x1 x2 : Int) (hI : IK A) (hta : isT ta) (hx1 : (-2147483648 : Int) ≤ x1 ∧ x1 ≤ 2147483647) (hx2 : (-2147483648 : Int) ≤ x2 ∧ x2 ≤ 2147483647) : KMi l yX9_takeUp ws_kc_X9_takeUp ({ frames := 5, cells := 0, slots := 0, locals := 111 } : Room) aL aS (dC, dI) (tyA cB cI cJ cZ cQ) (WK cB cI cJ cZ cQ q) A [.ref (q ta), .int (iI x1), .int (iI x2)] (fun z u => IK u ∧ fk [34, 43, 75, 106] [] A u ∧ (0 ≤ z ∧ z ≤ 1)) := by
  refine k_metz (cc := cX9_takeUp) (maxL := 5) WK_adr (plainFor_of_name (by decide +kernel)) rfl (Nat.le_of_ble_eq_true rfl) (fun z u h => h.2.2) (fun p e s m below meth c Q AS ls hx hb hml hown hts hK hDD hA0 hE RET H locs hP hS hl => ?_)
  have hown : s.vm.findClass RX9 = some m.cls := hown
  have hl : lv_has ls 5 [(0, .ref (q ta)), (1, .int (iI x1)), (2, .int (iI x2))] := hl
  have hiX9 : ∀ w ∈ u_ws RX9 TX9 16, w ∈ ws_kc_X9_takeUp := fun w h => List.mem_cons_of_mem _ (wy_layX9 w h)
  have hiX6 : ∀ w ∈ u_ws RX6 TX6 4, w ∈ ws_kc_X9_takeUp := fun w h => List.mem_cons_of_mem _ (wy_layX6 w h)
  refine lv_aload_n hx hb dX9_takeUp_0 rfl (lv_at hl 0 rfl) ?_
  refine lv_iconst (v := iI 3) hx hb dX9_takeUp_1 (by decide +kernel) ?_
  refine lv_iload_n hx hb dX9_takeUp_2 rfl (lv_at hl 1 rfl) ?_
  refine k_calli (As := [.int (iI 3), .int (iI x1)]) (rest := []) ⟨hx, hb, hml, hown, hts⟩ hE (kc_X9_isThere_1_3 l dC dI cB cI cJ cZ cQ aL aS q _ ta x1 hI hta hx1) (cwV 2 hts (goodVk (wk_in_2 _ (List.mem_of_getElem? (i := 52) rfl)) (wk_in_0 _ (List.mem_of_getElem? (i := 22) rfl)) (wk_in_0 _ (List.mem_of_getElem? (i := 23) rfl)) (wk_in_0 _ (List.mem_of_getElem? (i := 6) rfl)) (wk_in_0 _ (List.mem_of_getElem? (i := 24) rfl))) rfl rfl rfl (by decide +kernel) ⟨Nat.le_of_ble_eq_true rfl, Nat.le_of_ble_eq_true rfl⟩) hK hDD hA0 hP hS ta 9 (wkT hta) rfl rfl hl.1 (Nat.le_of_ble_eq_true rfl) dX9_takeUp_3 (fun z1 A2 H locs hw3 hP hS => ?_)
  obtain ⟨rfl, hw3⟩ := hw3
  have rz1 : 0 ≤ z1 ∧ z1 ≤ 1 := hw3.1
  have hw3 := hw3.2
  refine lv_if_eq (tgt := 18) hx hb dX9_takeUp_6 (by decide) (fun c4 => ?_) (fun c4 => ?_)
  · have c4 : z1 = 0 := (i_eq0 (rb rz1 (by decide) (by decide))).mp c4
    clear hw3
    refine lv_iconst (v := iI 0) hx hb dX9_takeUp_18 (by decide +kernel) ?_
    exact RET 0 _ _ _ _ _ ⟨hI, fk.rf, ⟨by decide, by decide⟩⟩ hP hS dX9_takeUp_19
  · have c4 : ¬ z1 = 0 := mt (i_eq0 (rb rz1 (by decide) (by decide))).mpr c4
    have hw3b := hw3 (by omega)
    clear hw3
    refine lv_aload_n hx hb dX9_takeUp_9 rfl (lv_at hl 0 rfl) ?_
    refine lv_iconst (v := iI 2) hx hb dX9_takeUp_10 (by decide +kernel) ?_
    refine lv_iload_n hx hb dX9_takeUp_11 rfl (lv_at hl 2 rfl) ?_
    refine k_calli (As := [.int (iI 2), .int (iI x2)]) (rest := []) ⟨hx, hb, hml, hown, hts⟩ hE (kc_X9_isThere_1_2 l dC dI cB cI cJ cZ cQ aL aS q _ ta x2 hI hta hx2) (cwV 2 hts (goodVk (wk_in_2 _ (List.mem_of_getElem? (i := 52) rfl)) (wk_in_0 _ (List.mem_of_getElem? (i := 22) rfl)) (wk_in_0 _ (List.mem_of_getElem? (i := 23) rfl)) (wk_in_0 _ (List.mem_of_getElem? (i := 6) rfl)) (wk_in_0 _ (List.mem_of_getElem? (i := 24) rfl))) rfl rfl rfl (by decide +kernel) ⟨Nat.le_of_ble_eq_true rfl, Nat.le_of_ble_eq_true rfl⟩) hK hDD hA0 hP hS ta 9 (wkT hta) rfl rfl hl.1 (Nat.le_of_ble_eq_true rfl) dX9_takeUp_12 (fun z5 A6 H locs hw7 hP hS => ?_)
    obtain ⟨rfl, hw7⟩ := hw7
    have rz5 : 0 ≤ z5 ∧ z5 ≤ 1 := hw7.1
    have hw7 := hw7.2
    refine lv_if_ne (tgt := 20) hx hb dX9_takeUp_15 (by decide) (fun c8 => ?_) (fun c8 => ?_)
    · have c8 : ¬ z5 = 0 := mt (i_eq0 (rb rz5 (by decide) (by decide))).mpr c8
      have hw7b := hw7 (by omega)
      clear hw7
      refine lv_aload_n hx hb dX9_takeUp_20 rfl (lv_at hl 0 rfl) ?_
      refine va_get (D := (dC, dI)) (ci := 9) (v := .ref (q (ta + 22))) (C := RX9) (T := TX9) (N := 16) hx hb hts hiX9 hown hK hP ta (wkT hta) rfl 14 (by decide) (hts _ (List.mem_cons_of_mem _ (wk_in_0 _ (List.mem_of_getElem? (i := 9) rfl)))) (fun _ h9 => h9) rfl dX9_takeUp_21 ?_
      refine va_get (D := (dC, dI)) (ci := 6) (v := .ref (q ((ta + 22) + 2))) (C := RX6) (T := TX6) (N := 4) hx hb hts hiX6 hown hK hP (ta + 22) (wkS hta.s) rfl 1 (by decide) (hts _ (List.mem_cons_of_mem _ (wk_in_0 _ (List.mem_of_getElem? (i := 10) rfl)))) (fun _ h9 => h9) rfl dX9_takeUp_24 ?_
      refine lv_iload_n hx hb dX9_takeUp_27 rfl (lv_at hl 2 rfl) ?_
      refine x_iald (Wf := WK cB cI cJ cZ cQ q) hx hb hK hP ((ta + 22) + 2) 1 (wkSw hta.s) rfl (by omega) (by decide) dX9_takeUp_28 (fun z9 hz9 => ?_)
      have rz9 : (-2147483648 : Int) ≤ z9 ∧ z9 ≤ 2147483647 := by rw [hz9]; exact irSw hta.s hI
      refine lv_istore_n (lv' := [(3, .int (iI z9)), (0, .ref (q ta)), (1, .int (iI x1)), (2, .int (iI x2))]) hx hb dX9_takeUp_29 rfl hl (by decide) rfl (fun ls hl => ?_)
      refine lv_aload_n hx hb dX9_takeUp_30 rfl (lv_at hl 1 rfl) ?_
      refine va_get (D := (dC, dI)) (ci := 9) (v := .ref (q (ta + 22))) (C := RX9) (T := TX9) (N := 16) hx hb hts hiX9 hown hK hP ta (wkT hta) rfl 14 (by decide) (hts _ (List.mem_cons_of_mem _ (wk_in_0 _ (List.mem_of_getElem? (i := 9) rfl)))) (fun _ h9 => h9) rfl dX9_takeUp_31 ?_
      refine va_get (D := (dC, dI)) (ci := 6) (v := .ref (q ((ta + 22) + 1))) (C := RX6) (T := TX6) (N := 4) hx hb hts hiX6 hown hK hP (ta + 22) (wkS hta.s) rfl 0 (by decide) (hts _ (List.mem_cons_of_mem _ (wk_in_6 _ (List.mem_of_getElem? (i := 52) rfl)))) (fun _ h9 => h9) rfl dX9_takeUp_34 ?_
      refine lv_iload_n hx hb dX9_takeUp_37 rfl (lv_at hl 2 rfl) ?_
      refine x_iald (Wf := WK cB cI cJ cZ cQ q) hx hb hK hP ((ta + 22) + 1) 1 (wkSs hta.s) rfl (by omega) (by decide) dX9_takeUp_38 (fun z10 hz10 => ?_)
      have rz10 : (-2147483648 : Int) ≤ z10 ∧ z10 ≤ 2147483647 := by rw [hz10]; exact irSs hta.s hI
      refine lv_istore (lv' := [(4, .int (iI z10)), (3, .int (iI z9)), (0, .ref (q ta)), (1, .int (iI x1)), (2, .int (iI x2))]) hx hb dX9_takeUp_39 hl (by decide) rfl (fun ls hl => ?_)
      refine lv_iload_n hx hb dX9_takeUp_41 rfl (lv_at hl 1 rfl) ?_
      refine lv_bipush (v := iI 10) hx hb dX9_takeUp_42 (by decide +kernel) ?_
      refine lv_iload hx hb dX9_takeUp_44 (lv_at hl 0 rfl) ?_
      refine x_addv (v := z10 + 10) hx hb dX9_takeUp_46 (by omega) ?_
      refine x_abs (fun z11 hz11 => ?_)
      have J65_13 : ∀ (H : Heap) (locs : List Loc) (ls : Array Slot), va_P (dC, dI) vwCl (WK cB cI cJ cZ cQ q A) H → va_S AS s.heap H locs → lv_has ls 5 [(4, .int (iI z10)), (3, .int (iI z9)), (0, .ref (q ta)), (1, .int (iI x1)), (2, .int (iI x2))] → W p l e (headSpec ws_kc_X9_takeUp ({ frames := 5, cells := 0, slots := 0, locals := 111 } : Room)).room s m [.ref (q ta), .int (iI x1), .int (iI x2)].toArray below meth c H locs 0 0 Q (F0 m 65 ls []) := by
        intro H locs ls hP hS hl
        refine lv_aload_n hx hb dX9_takeUp_65 rfl (lv_at hl 2 rfl) ?_
        refine va_get (D := (dC, dI)) (ci := 9) (v := .ref (q (ta + 22))) (C := RX9) (T := TX9) (N := 16) hx hb hts hiX9 hown hK hP ta (wkT hta) rfl 14 (by decide) (hts _ (List.mem_cons_of_mem _ (wk_in_0 _ (List.mem_of_getElem? (i := 9) rfl)))) (fun _ h9 => h9) rfl dX9_takeUp_66 ?_
        refine va_get (D := (dC, dI)) (ci := 6) (v := .ref (q ((ta + 22) + 2))) (C := RX6) (T := TX6) (N := 4) hx hb hts hiX6 hown hK hP (ta + 22) (wkS hta.s) rfl 1 (by decide) (hts _ (List.mem_cons_of_mem _ (wk_in_0 _ (List.mem_of_getElem? (i := 10) rfl)))) (fun _ h9 => h9) rfl dX9_takeUp_69 ?_
        refine lv_iload_n hx hb dX9_takeUp_72 rfl (lv_at hl 4 rfl) ?_
        refine lv_iload_n hx hb dX9_takeUp_73 rfl (lv_at hl 3 rfl) ?_
        refine k_iast (Wf := WK cB cI cJ cZ cQ q) hx hb hK hP hDD hS ((ta + 22) + 2) 1 (wkSw hta.s) rfl (by omega) (by decide) dX9_takeUp_74 (wsSw hta.s) (fun H locs A20 hA20 hP hS => ?_)
        have hI := isSw hta.s hA20 hI (show (-2147483648 : Int) ≤ x1 ∧ x1 ≤ 2147483647 from hx1)
        refine lv_iconst (v := iI 1) hx hb dX9_takeUp_75 (by decide +kernel) ?_
        exact RET 1 _ _ _ _ _ ⟨hI, fk.da (fk.rf) hA20 (isS.b2 (o := fun b => List.contains [34, 43, 75, 106] (b + 2)) hta.s rfl rfl rfl rfl), ⟨by decide, by decide⟩⟩ hP hS dX9_takeUp_76
      refine lv_icmp_eq (tgt := 65) hx hb dX9_takeUp_47 (by decide) (fun c12 => ?_) (fun c12 => ?_)
      · have c12 : z9 = z11 := (i_eq rz9 hz11).mp c12
        exact J65_13 _ _ _ hP hS (lv_sub hl [0, 1, 2, 3, 4] rfl)
      · have c12 : ¬ z9 = z11 := mt (i_eq rz9 hz11).mpr c12
        refine lv_aload_n hx hb dX9_takeUp_50 rfl (lv_at hl 2 rfl) ?_
        refine lv_iload_n hx hb dX9_takeUp_51 rfl (lv_at hl 1 rfl) ?_
        refine lv_bipush (v := iI 20) hx hb dX9_takeUp_52 (by decide +kernel) ?_
        refine x_subv (v := z9 - 20) hx hb dX9_takeUp_54 (by omega) ?_
        refine x_abs (fun z14 hz14 => ?_)
        refine lv_iload hx hb dX9_takeUp_55 (lv_at hl 0 rfl) ?_
        refine k_calli (As := [.int (iI z14), .int (iI z10)]) (rest := []) ⟨hx, hb, hml, hown, hts⟩ hE (kc_X9_isOpenBoxAt l dC dI cB cI cJ cZ cQ aL aS q _ ta z14 z10 hI hta hz14 rz10) (cwV 2 hts (goodVk (wk_in_9 _ (List.mem_of_getElem? (i := 20) rfl)) (wk_in_9 _ (List.mem_of_getElem? (i := 21) rfl)) (wk_in_9 _ (List.mem_of_getElem? (i := 22) rfl)) (wk_in_0 _ (List.mem_of_getElem? (i := 6) rfl)) (wk_in_9 _ (List.mem_of_getElem? (i := 23) rfl))) rfl rfl rfl (by decide +kernel) ⟨Nat.le_of_ble_eq_true rfl, Nat.le_of_ble_eq_true rfl⟩) hK hDD hA0 hP hS ta 9 (wkT hta) rfl rfl hl.1 (Nat.le_of_ble_eq_true rfl) dX9_takeUp_57 (fun z15 A16 H locs hw17 hP hS => ?_)
        obtain ⟨rfl, hw17⟩ := hw17
        refine lv_if_ne (tgt := 65) hx hb dX9_takeUp_60 (by decide) (fun c18 => ?_) (fun c18 => ?_)
        · have c18 : ¬ z15 = 0 := mt (i_eq0 (rb hw17 (by decide) (by decide))).mpr c18
          exact J65_13 _ _ _ hP hS (lv_sub hl [0, 1, 2, 3, 4] rfl)
        · have c18 : z15 = 0 := (i_eq0 (rb hw17 (by decide) (by decide))).mp c18
          refine lv_iconst (v := iI 0) hx hb dX9_takeUp_63 (by decide +kernel) ?_
          exact RET 0 _ _ _ _ _ ⟨hI, fk.rf, ⟨by decide, by decide⟩⟩ hP hS dX9_takeUp_64
    · have c8 : z5 = 0 := (i_eq0 (rb rz5 (by decide) (by decide))).mp c8
      clear hw7
      refine lv_iconst (v := iI 0) hx hb dX9_takeUp_18 (by decide +kernel) ?_
      exact RET 0 _ _ _ _ _ ⟨hI, fk.rf, ⟨by decide, by decide⟩⟩ hP hS dX9_takeUp_19

def ws_kc_X9_layDown : List Cond := .code yX9_layDown cX9_layDown 5 (some .boolean) :: WY
set_option maxHeartbeats 4000000 in
set_option maxRecDepth 100000 in
theorem kc_X9_layDown (l : Launch) (dC : Nat → ClassId) (dI : Nat → Nat → Nat) (cB cI cJ cZ cQ : ClassId) (aL aS : Nat) (q : Nat → Nat) (A : St) (ta : Nat) (x1 x2 x3 : Int) (hI : IK A) (hta : isT ta) (hx1 : (-2147483648 : Int) ≤ x1 ∧ x1 ≤ 2147483647) (hx2 : (-2147483648 : Int) ≤ x2 ∧ x2 ≤ 2147483647) (hx3 : (-2147483648 : Int) ≤ x3 ∧ x3 ≤ 2147483647) : KMi l yX9_layDown ws_kc_X9_layDown ({ frames := 5, cells := 0, slots := 0, locals := 111 } : Room) aL aS (dC, dI) (tyA cB cI cJ cZ cQ) (WK cB cI cJ cZ cQ q) A [.ref (q ta), .int (iI x1), .int (iI x2), .int (iI x3)] (fun z u => IK u ∧ fk [34, 43, 75, 106] [] A u ∧ (0 ≤ z ∧ z ≤ 1)) := by
  refine k_metz (cc := cX9_layDown) (maxL := 5) WK_adr (plainFor_of_name (by decide +kernel)) rfl (Nat.le_of_ble_eq_true rfl) (fun z u h => h.2.2) (fun p e s m below meth c Q AS ls hx hb hml hown hts hK hDD hA0 hE RET H locs hP hS hl => ?_)
  have hown : s.vm.findClass RX9 = some m.cls := hown
  have hl : lv_has ls 5 [(0, .ref (q ta)), (1, .int (iI x1)), (2, .int (iI x2)), (3, .int (iI x3))] := hl
  have hiX9 : ∀ w ∈ u_ws RX9 TX9 16, w ∈ ws_kc_X9_layDown := fun w h => List.mem_cons_of_mem _ (wy_layX9 w h)
  have hiX6 : ∀ w ∈ u_ws RX6 TX6 4, w ∈ ws_kc_X9_layDown := fun w h => List.mem_cons_of_mem _ (wy_layX6 w h)
  refine lv_aload_n hx hb dX9_layDown_0 rfl (lv_at hl 0 rfl) ?_
  refine lv_iload_n hx hb dX9_layDown_1 rfl (lv_at hl 1 rfl) ?_
  refine lv_iload_n hx hb dX9_layDown_2 rfl (lv_at hl 2 rfl) ?_
  refine k_calli (As := [.int (iI x1), .int (iI x2)]) (rest := []) ⟨hx, hb, hml, hown, hts⟩ hE (kc_X9_holdsKey l dC dI cB cI cJ cZ cQ aL aS q _ ta x1 x2 hI hta hx1 hx2) (cwV 2 hts (goodVk (wk_in_9 _ (List.mem_of_getElem? (i := 10) rfl)) (wk_in_9 _ (List.mem_of_getElem? (i := 11) rfl)) (wk_in_9 _ (List.mem_of_getElem? (i := 12) rfl)) (wk_in_0 _ (List.mem_of_getElem? (i := 6) rfl)) (wk_in_8 _ (List.mem_of_getElem? (i := 59) rfl))) rfl rfl rfl (by decide +kernel) ⟨Nat.le_of_ble_eq_true rfl, Nat.le_of_ble_eq_true rfl⟩) hK hDD hA0 hP hS ta 9 (wkT hta) rfl rfl hl.1 (Nat.le_of_ble_eq_true rfl) dX9_layDown_3 (fun z1 A2 H locs hw3 hP hS => ?_)
  obtain ⟨rfl, hw3⟩ := hw3
  have rz1 : 0 ≤ z1 ∧ z1 ≤ 1 := hw3.1
  have hw3 := hw3.2
  refine lv_if_ne (tgt := 11) hx hb dX9_layDown_6 (by decide) (fun c4 => ?_) (fun c4 => ?_)
  · have c4 : ¬ z1 = 0 := mt (i_eq0 (rb rz1 (by decide) (by decide))).mpr c4
    have hw3b := hw3 (by omega)
    clear hw3
    refine lv_aload_n hx hb dX9_layDown_11 rfl (lv_at hl 0 rfl) ?_
    refine va_get (D := (dC, dI)) (ci := 9) (v := .ref (q (ta + 22))) (C := RX9) (T := TX9) (N := 16) hx hb hts hiX9 hown hK hP ta (wkT hta) rfl 14 (by decide) (hts _ (List.mem_cons_of_mem _ (wk_in_0 _ (List.mem_of_getElem? (i := 9) rfl)))) (fun _ h9 => h9) rfl dX9_layDown_12 ?_
    refine va_get (D := (dC, dI)) (ci := 6) (v := .ref (q ((ta + 22) + 1))) (C := RX6) (T := TX6) (N := 4) hx hb hts hiX6 hown hK hP (ta + 22) (wkS hta.s) rfl 0 (by decide) (hts _ (List.mem_cons_of_mem _ (wk_in_6 _ (List.mem_of_getElem? (i := 52) rfl)))) (fun _ h9 => h9) rfl dX9_layDown_15 ?_
    refine lv_iload_n hx hb dX9_layDown_18 rfl (lv_at hl 1 rfl) ?_
    refine x_iald (Wf := WK cB cI cJ cZ cQ q) hx hb hK hP ((ta + 22) + 1) 1 (wkSs hta.s) rfl (by omega) (by decide) dX9_layDown_19 (fun z5 hz5 => ?_)
    have rz5 : (-2147483648 : Int) ≤ z5 ∧ z5 ≤ 2147483647 := by rw [hz5]; exact irSs hta.s hI
    refine lv_istore (lv' := [(4, .int (iI z5)), (0, .ref (q ta)), (1, .int (iI x1)), (2, .int (iI x2)), (3, .int (iI x3))]) hx hb dX9_layDown_20 hl (by decide) rfl (fun ls hl => ?_)
    refine lv_iload_n hx hb dX9_layDown_22 rfl (lv_at hl 4 rfl) ?_
    refine lv_iconst (v := iI (-1)) hx hb dX9_layDown_23 (by decide +kernel) ?_
    have J39_7 : ∀ (H : Heap) (locs : List Loc) (ls : Array Slot), va_P (dC, dI) vwCl (WK cB cI cJ cZ cQ q A) H → va_S AS s.heap H locs → lv_has ls 5 [(4, .int (iI z5)), (0, .ref (q ta)), (1, .int (iI x1)), (2, .int (iI x2)), (3, .int (iI x3))] → W p l e (headSpec ws_kc_X9_layDown ({ frames := 5, cells := 0, slots := 0, locals := 111 } : Room)).room s m [.ref (q ta), .int (iI x1), .int (iI x2), .int (iI x3)].toArray below meth c H locs 0 0 Q (F0 m 39 ls []) := by
      intro H locs ls hP hS hl
      refine lv_aload_n hx hb dX9_layDown_39 rfl (lv_at hl 1 rfl) ?_
      refine va_get (D := (dC, dI)) (ci := 9) (v := .ref (q (ta + 22))) (C := RX9) (T := TX9) (N := 16) hx hb hts hiX9 hown hK hP ta (wkT hta) rfl 14 (by decide) (hts _ (List.mem_cons_of_mem _ (wk_in_0 _ (List.mem_of_getElem? (i := 9) rfl)))) (fun _ h9 => h9) rfl dX9_layDown_40 ?_
      refine va_get (D := (dC, dI)) (ci := 6) (v := .ref (q ((ta + 22) + 2))) (C := RX6) (T := TX6) (N := 4) hx hb hts hiX6 hown hK hP (ta + 22) (wkS hta.s) rfl 1 (by decide) (hts _ (List.mem_cons_of_mem _ (wk_in_0 _ (List.mem_of_getElem? (i := 10) rfl)))) (fun _ h9 => h9) rfl dX9_layDown_43 ?_
      refine lv_iload_n hx hb dX9_layDown_46 rfl (lv_at hl 3 rfl) ?_
      refine lv_iload_n hx hb dX9_layDown_47 rfl (lv_at hl 4 rfl) ?_
      refine lv_iconst (v := iI (-1)) hx hb dX9_layDown_48 (by decide +kernel) ?_
      refine lv_icmp_ne (tgt := 60) hx hb dX9_layDown_49 (by decide) (fun c13 => ?_) (fun c13 => ?_)
      · have c13 : ¬ x3 = (-1) := mt (i_eq hx3 ⟨by decide, by decide⟩).mpr c13
        refine lv_bipush (v := iI 20) hx hb dX9_layDown_60 (by decide +kernel) ?_
        refine lv_iload_n hx hb dX9_layDown_62 rfl (lv_at hl 4 rfl) ?_
        refine x_addv (v := x3 + 20) hx hb dX9_layDown_63 (by omega) ?_
        refine x_abs (fun z14 hz14 => ?_)
        refine k_iast (Wf := WK cB cI cJ cZ cQ q) hx hb hK hP hDD hS ((ta + 22) + 2) 1 (wkSw hta.s) rfl (by omega) (by decide) dX9_layDown_64 (wsSw hta.s) (fun H locs A15 hA15 hP hS => ?_)
        have hI := isSw hta.s hA15 hI (show (-2147483648 : Int) ≤ z14 ∧ z14 ≤ 2147483647 from hz14)
        refine lv_iconst (v := iI 1) hx hb dX9_layDown_65 (by decide +kernel) ?_
        exact RET 1 _ _ _ _ _ ⟨hI, fk.da (fk.rf) hA15 (isS.b2 (o := fun b => List.contains [34, 43, 75, 106] (b + 2)) hta.s rfl rfl rfl rfl), ⟨by decide, by decide⟩⟩ hP hS dX9_layDown_66
      · have c13 : x3 = (-1) := (i_eq hx3 ⟨by decide, by decide⟩).mp c13
        refine lv_bipush (v := iI 10) hx hb dX9_layDown_52 (by decide +kernel) ?_
        refine lv_iload hx hb dX9_layDown_54 (lv_at hl 0 rfl) ?_
        refine x_addv (v := z5 + 10) hx hb dX9_layDown_56 (by omega) ?_
        refine x_abs (fun z16 hz16 => ?_)
        refine lv_goto (tgt := 64) hx hb dX9_layDown_57 (by decide) ?_
        refine k_iast (Wf := WK cB cI cJ cZ cQ q) hx hb hK hP hDD hS ((ta + 22) + 2) 1 (wkSw hta.s) rfl (by omega) (by decide) dX9_layDown_64 (wsSw hta.s) (fun H locs A17 hA17 hP hS => ?_)
        have hI := isSw hta.s hA17 hI (show (-2147483648 : Int) ≤ z16 ∧ z16 ≤ 2147483647 from hz16)
        refine lv_iconst (v := iI 1) hx hb dX9_layDown_65 (by decide +kernel) ?_
        exact RET 1 _ _ _ _ _ ⟨hI, fk.da (fk.rf) hA17 (isS.b2 (o := fun b => List.contains [34, 43, 75, 106] (b + 2)) hta.s rfl rfl rfl rfl), ⟨by decide, by decide⟩⟩ hP hS dX9_layDown_66
    refine lv_icmp_eq (tgt := 39) hx hb dX9_layDown_24 (by decide) (fun c6 => ?_) (fun c6 => ?_)
    · have c6 : x3 = (-1) := (i_eq hx3 ⟨by decide, by decide⟩).mp c6
      exact J39_7 _ _ _ hP hS (lv_sub hl [0, 1, 2, 3, 4] rfl)
    · have c6 : ¬ x3 = (-1) := mt (i_eq hx3 ⟨by decide, by decide⟩).mpr c6
      refine lv_aload_n hx hb dX9_layDown_27 rfl (lv_at hl 1 rfl) ?_
      refine lv_iload_n hx hb dX9_layDown_28 rfl (lv_at hl 4 rfl) ?_
      refine lv_iload hx hb dX9_layDown_29 (lv_at hl 0 rfl) ?_
      refine k_calli (As := [.int (iI x3), .int (iI z5)]) (rest := []) ⟨hx, hb, hml, hown, hts⟩ hE (kc_X9_isOpenBoxAt l dC dI cB cI cJ cZ cQ aL aS q _ ta x3 z5 hI hta hx3 rz5) (cwV 2 hts (goodVk (wk_in_9 _ (List.mem_of_getElem? (i := 20) rfl)) (wk_in_9 _ (List.mem_of_getElem? (i := 21) rfl)) (wk_in_9 _ (List.mem_of_getElem? (i := 22) rfl)) (wk_in_0 _ (List.mem_of_getElem? (i := 6) rfl)) (wk_in_9 _ (List.mem_of_getElem? (i := 23) rfl))) rfl rfl rfl (by decide +kernel) ⟨Nat.le_of_ble_eq_true rfl, Nat.le_of_ble_eq_true rfl⟩) hK hDD hA0 hP hS ta 9 (wkT hta) rfl rfl hl.1 (Nat.le_of_ble_eq_true rfl) dX9_layDown_31 (fun z8 A9 H locs hw10 hP hS => ?_)
      obtain ⟨rfl, hw10⟩ := hw10
      refine lv_if_ne (tgt := 39) hx hb dX9_layDown_34 (by decide) (fun c11 => ?_) (fun c11 => ?_)
      · have c11 : ¬ z8 = 0 := mt (i_eq0 (rb hw10 (by decide) (by decide))).mpr c11
        exact J39_7 _ _ _ hP hS (lv_sub hl [0, 1, 2, 3, 4] rfl)
      · have c11 : z8 = 0 := (i_eq0 (rb hw10 (by decide) (by decide))).mp c11
        refine lv_iconst (v := iI 0) hx hb dX9_layDown_37 (by decide +kernel) ?_
        exact RET 0 _ _ _ _ _ ⟨hI, fk.rf, ⟨by decide, by decide⟩⟩ hP hS dX9_layDown_38
  · have c4 : z1 = 0 := (i_eq0 (rb rz1 (by decide) (by decide))).mp c4
    clear hw3
    refine lv_iconst (v := iI 0) hx hb dX9_layDown_9 (by decide +kernel) ?_
    exact RET 0 _ _ _ _ _ ⟨hI, fk.rf, ⟨by decide, by decide⟩⟩ hP hS dX9_layDown_10

def ws_kc_X9_shuttingKey : List Cond := .code yX9_shuttingKey cX9_shuttingKey 4 (some .int) :: WY
set_option maxHeartbeats 4000000 in
set_option maxRecDepth 100000 in
theorem kc_X9_shuttingKey (l : Launch) (dC : Nat → ClassId) (dI : Nat → Nat → Nat) (cB cI cJ cZ cQ : ClassId) (aL aS : Nat) (q : Nat → Nat) (A : St) (ta : Nat) (x1 x2 : Int) (hI : IK A) (hta : isT ta) (hx1 : (-2147483648 : Int) ≤ x1 ∧ x1 ≤ 2147483647) (hx2 : (-2147483648 : Int) ≤ x2 ∧ x2 ≤ 2147483647) : KMi l yX9_shuttingKey ws_kc_X9_shuttingKey ({ frames := 2, cells := 0, slots := 0, locals := 45 } : Room) aL aS (dC, dI) (tyA cB cI cJ cZ cQ) (WK cB cI cJ cZ cQ q) A [.ref (q ta), .int (iI x1), .int (iI x2)] (fun z u => A = u ∧ (-1 ≤ z ∧ z ≤ 3)) := by
  refine k_meti (cc := cX9_shuttingKey) (maxL := 4) WK_adr (plainFor_of_name (by decide +kernel)) rfl (Nat.le_of_ble_eq_true rfl) (fun p e s m below meth c Q AS ls hx hb hml hown hts hK hDD hA0 hE RET H locs hP hS hl => ?_)
  have hown : s.vm.findClass RX9 = some m.cls := hown
  have hl : lv_has ls 4 [(0, .ref (q ta)), (1, .int (iI x1)), (2, .int (iI x2))] := hl
  have hiX9 : ∀ w ∈ u_ws RX9 TX9 16, w ∈ ws_kc_X9_shuttingKey := fun w h => List.mem_cons_of_mem _ (wy_layX9 w h)
  refine lv_iconst (v := iI 0) hx hb dX9_shuttingKey_0 (by decide +kernel) ?_
  refine lv_istore_n (lv' := [(3, .int (iI 0)), (0, .ref (q ta)), (1, .int (iI x1)), (2, .int (iI x2))]) hx hb dX9_shuttingKey_1 rfl hl (by decide) rfl (fun ls hl => ?_)
  have L2_3 : ∀ (n7 : Nat) (z1 : Int) (H : Heap) (locs : List Loc) (ls : Array Slot), (0 ≤ z1 ∧ z1 ≤ 2147483647) → ((5 - z1).toNat = n7) → va_P (dC, dI) vwCl (WK cB cI cJ cZ cQ q A) H → va_S AS s.heap H locs → lv_has ls 4 [(3, .int (iI z1)), (0, .ref (q ta)), (1, .int (iI x1)), (2, .int (iI x2))] → W p l e (headSpec ws_kc_X9_shuttingKey ({ frames := 2, cells := 0, slots := 0, locals := 45 } : Room)).room s m [.ref (q ta), .int (iI x1), .int (iI x2)].toArray below meth c H locs 0 0 Q (F0 m 2 ls []) := by
    intro n7
    induction n7 using Nat.strongRecOn with
    | ind n7 ih4 =>
      intro z1 H locs ls f5 hn7 hP hS hl
      refine lv_iload_n hx hb dX9_shuttingKey_2 rfl (lv_at hl 0 rfl) ?_
      refine lv_aload_n hx hb dX9_shuttingKey_3 rfl (lv_at hl 1 rfl) ?_
      refine va_get (D := (dC, dI)) (ci := 9) (v := .ref (q (ta + 1))) (C := RX9) (T := TX9) (N := 16) hx hb hts hiX9 hown hK hP ta (wkT hta) rfl 0 (by decide) (hts _ (List.mem_cons_of_mem _ (wk_in_0 _ (List.mem_of_getElem? (i := 8) rfl)))) (fun _ h9 => h9) rfl dX9_shuttingKey_4 ?_
      refine lv_iconst (v := iI 2) hx hb dX9_shuttingKey_7 (by decide +kernel) ?_
      refine x_iald (Wf := WK cB cI cJ cZ cQ q) hx hb hK hP (ta + 1) 1 (wkTc hta) rfl (by decide) (by decide) dX9_shuttingKey_8 (fun z8 hz8 => ?_)
      have rz8 : (0 : Int) ≤ z8 ∧ z8 ≤ 4 := by rw [hz8]; exact irTc2 hta hI
      refine lv_icmp_ge (tgt := 42) hx hb dX9_shuttingKey_9 (by decide) (fun c9 => ?_) (fun c9 => ?_)
      · have c9 : z8 ≤ z1 := (i_le (rb rz8 (by decide) (by decide)) (rb f5 (by decide) (by decide))).mp c9
        refine lv_iconst (v := iI (-1)) hx hb dX9_shuttingKey_42 (by decide +kernel) ?_
        exact RET (-1) _ _ _ _ _ ⟨rfl, by omega⟩ hP hS dX9_shuttingKey_43
      · have c9 : ¬ z8 ≤ z1 := mt (i_le (rb rz8 (by decide) (by decide)) (rb f5 (by decide) (by decide))).mpr c9
        refine lv_aload_n hx hb dX9_shuttingKey_12 rfl (lv_at hl 1 rfl) ?_
        refine lv_iload_n hx hb dX9_shuttingKey_13 rfl (lv_at hl 2 rfl) ?_
        refine lv_iload_n hx hb dX9_shuttingKey_14 rfl (lv_at hl 0 rfl) ?_
        refine k_calli (As := [.int (iI x1), .int (iI z1)]) (rest := []) ⟨hx, hb, hml, hown, hts⟩ hE (kc_X9_holdsKey l dC dI cB cI cJ cZ cQ aL aS q _ ta x1 z1 hI hta hx1 (rb f5 (by decide) (by decide))) (cwV 2 hts (goodVk (wk_in_9 _ (List.mem_of_getElem? (i := 10) rfl)) (wk_in_9 _ (List.mem_of_getElem? (i := 11) rfl)) (wk_in_9 _ (List.mem_of_getElem? (i := 12) rfl)) (wk_in_0 _ (List.mem_of_getElem? (i := 6) rfl)) (wk_in_8 _ (List.mem_of_getElem? (i := 59) rfl))) rfl rfl rfl (by decide +kernel) ⟨Nat.le_of_ble_eq_true rfl, Nat.le_of_ble_eq_true rfl⟩) hK hDD hA0 hP hS ta 9 (wkT hta) rfl rfl hl.1 (Nat.le_of_ble_eq_true rfl) dX9_shuttingKey_15 (fun z10 A11 H locs hw12 hP hS => ?_)
        obtain ⟨rfl, hw12⟩ := hw12
        have rz10 : 0 ≤ z10 ∧ z10 ≤ 1 := hw12.1
        have hw12 := hw12.2
        have J36_14 : ∀ (H : Heap) (locs : List Loc) (ls : Array Slot), va_P (dC, dI) vwCl (WK cB cI cJ cZ cQ q A) H → va_S AS s.heap H locs → lv_has ls 4 [(3, .int (iI z1)), (0, .ref (q ta)), (1, .int (iI x1)), (2, .int (iI x2))] → W p l e (headSpec ws_kc_X9_shuttingKey ({ frames := 2, cells := 0, slots := 0, locals := 45 } : Room)).room s m [.ref (q ta), .int (iI x1), .int (iI x2)].toArray below meth c H locs 0 0 Q (F0 m 36 ls []) := by
          intro H locs ls hP hS hl
          clear hw12
          refine lv_iinc (v := iI (z1 + 1)) (lv' := [(3, .int (iI (z1 + 1))), (0, .ref (q ta)), (1, .int (iI x1)), (2, .int (iI x2))]) hx hb dX9_shuttingKey_36 hl (k := 0) rfl (i_inc (by omega)) (by decide) rfl (fun ls hl => ?_)
          refine lv_goto (tgt := 2) hx hb dX9_shuttingKey_39 (by decide) ?_
          exact ih4 _ (by omega) (z1 + 1) _ _ _ (by omega) rfl hP hS (lv_sub hl [0, 1, 2, 3] rfl)
        refine lv_if_eq (tgt := 36) hx hb dX9_shuttingKey_18 (by decide) (fun c13 => ?_) (fun c13 => ?_)
        · have c13 : z10 = 0 := (i_eq0 (rb rz10 (by decide) (by decide))).mp c13
          clear hw12
          exact J36_14 _ _ _ hP hS (lv_sub hl [0, 1, 2, 3] rfl)
        · have c13 : ¬ z10 = 0 := mt (i_eq0 (rb rz10 (by decide) (by decide))).mpr c13
          have hw12b := hw12 (by omega)
          clear hw12
          refine lv_aload_n hx hb dX9_shuttingKey_21 rfl (lv_at hl 1 rfl) ?_
          refine va_get (D := (dC, dI)) (ci := 9) (v := .ref (q (ta + 22))) (C := RX9) (T := TX9) (N := 16) hx hb hts hiX9 hown hK hP ta (wkT hta) rfl 14 (by decide) (hts _ (List.mem_cons_of_mem _ (wk_in_0 _ (List.mem_of_getElem? (i := 9) rfl)))) (fun _ h9 => h9) rfl dX9_shuttingKey_22 ?_
          refine lv_iload_n hx hb dX9_shuttingKey_25 rfl (lv_at hl 0 rfl) ?_
          refine lv_iload_n hx hb dX9_shuttingKey_26 rfl (lv_at hl 3 rfl) ?_
          refine k_calli (As := [.int (iI z1), .int (iI x2)]) (rest := []) ⟨hx, hb, hml, hown, hts⟩ hE (kc_X6_placeInRow l dC dI cB cI cJ cZ cQ aL aS q _ (ta + 22) z1 x2 hI hta.s (rb f5 (by decide) (by decide)) hx2) (cwV 2 hts (goodVk (wk_in_8 _ (List.mem_of_getElem? (i := 58) rfl)) (wk_in_4 _ (List.mem_of_getElem? (i := 59) rfl)) (wk_in_5 _ (List.mem_of_getElem? (i := 0) rfl)) (wk_in_0 _ (List.mem_of_getElem? (i := 52) rfl)) (wk_in_5 _ (List.mem_of_getElem? (i := 1) rfl))) rfl rfl rfl (by decide +kernel) ⟨Nat.le_of_ble_eq_true rfl, Nat.le_of_ble_eq_true rfl⟩) hK hDD hA0 hP hS (ta + 22) 6 (wkS hta.s) rfl rfl hl.1 (Nat.le_of_ble_eq_true rfl) dX9_shuttingKey_27 (fun z15 A16 H locs hw17 hP hS => ?_)
          obtain ⟨rfl, hw17⟩ := hw17
          refine lv_iconst (v := iI (-1)) hx hb dX9_shuttingKey_30 (by decide +kernel) ?_
          refine lv_icmp_ne (tgt := 36) hx hb dX9_shuttingKey_31 (by decide) (fun c18 => ?_) (fun c18 => ?_)
          · have c18 : ¬ z15 = (-1) := mt (i_eq (rb hw17 (by decide) (by decide)) ⟨by decide, by decide⟩).mpr c18
            exact J36_14 _ _ _ hP hS (lv_sub hl [0, 1, 2, 3] rfl)
          · have c18 : z15 = (-1) := (i_eq (rb hw17 (by decide) (by decide)) ⟨by decide, by decide⟩).mp c18
            refine lv_iload_n hx hb dX9_shuttingKey_34 rfl (lv_at hl 0 rfl) ?_
            exact RET z1 _ _ _ _ _ ⟨rfl, by omega⟩ hP hS dX9_shuttingKey_35
  exact L2_3 _ 0 _ _ _ (by omega) rfl hP hS (lv_sub hl [0, 1, 2, 3] rfl)

def ws_kc_X9_toldAct : List Cond := .code yX9_toldAct cX9_toldAct 4 (some .int) :: WY
set_option maxHeartbeats 4000000 in
set_option maxRecDepth 100000 in
theorem kc_X9_toldAct (l : Launch) (dC : Nat → ClassId) (dI : Nat → Nat → Nat) (cB cI cJ cZ cQ : ClassId) (aL aS : Nat) (q : Nat → Nat) (A : St) (ta : Nat) (x1 x2 x3 : Int) (hI : IK A) (hta : isT ta) (hx1 : (-2147483648 : Int) ≤ x1 ∧ x1 ≤ 2147483647) (hx2 : (-2147483648 : Int) ≤ x2 ∧ x2 ≤ 2147483647) (hx3 : (-2147483648 : Int) ≤ x3 ∧ x3 ≤ 2147483647) : KMi l yX9_toldAct ws_kc_X9_toldAct ({ frames := 5, cells := 0, slots := 0, locals := 123 } : Room) aL aS (dC, dI) (tyA cB cI cJ cZ cQ) (WK cB cI cJ cZ cQ q) A [.ref (q ta), .int (iI x1), .int (iI x2), .int (iI x3)] (fun z u => IK u ∧ fk [33, 35, 37, 38, 39, 40, 42, 44, 46, 47, 48, 49, 72, 74, 76, 78, 79, 80, 81, 103, 105, 107, 109, 110, 111, 112] [] A u ∧ (-2147483648 ≤ z ∧ z ≤ 2147483647)) := by
  refine k_meti (cc := cX9_toldAct) (maxL := 4) WK_adr (plainFor_of_name (by decide +kernel)) rfl (Nat.le_of_ble_eq_true rfl) (fun p e s m below meth c Q AS ls hx hb hml hown hts hK hDD hA0 hE RET H locs hP hS hl => ?_)
  have hown : s.vm.findClass RX9 = some m.cls := hown
  have hl : lv_has ls 4 [(0, .ref (q ta)), (1, .int (iI x1)), (2, .int (iI x2)), (3, .int (iI x3))] := hl
  refine lv_iload_n hx hb dX9_toldAct_0 rfl (lv_at hl 2 rfl) ?_
  rcases (show (x2 < 0 ∨ 2 < x2) ∨ x2 = 0 ∨ x2 = 1 ∨ x2 = 2 by omega) with c1 | c1 | c1 | c1
  · refine lv_tableOut (tgt := 55) hx hb dX9_toldAct_1 (by rw [iI_toInt hx2]; exact c1) (by decide) ?_
    refine lv_iconst (v := iI (-1)) hx hb dX9_toldAct_55 (by decide +kernel) ?_
    exact RET (-1) _ _ _ _ _ ⟨hI, fk.rf, ⟨by decide, by decide⟩⟩ hP hS dX9_toldAct_56
  · refine tp_i (y := iI 0) (congrArg iI c1) ?_
    refine lv_tableIn (off := 27) (tgt := 28) hx hb dX9_toldAct_1 (by decide +kernel) (by decide +kernel) (by decide +kernel) (by decide) ?_
    refine lv_aload_n hx hb dX9_toldAct_28 rfl (lv_at hl 0 rfl) ?_
    refine lv_iload_n hx hb dX9_toldAct_29 rfl (lv_at hl 1 rfl) ?_
    refine lv_iload_n hx hb dX9_toldAct_30 rfl (lv_at hl 3 rfl) ?_
    refine k_calli (As := [.int (iI x1), .int (iI x3)]) (rest := []) ⟨hx, hb, hml, hown, hts⟩ hE (kc_X9_goThrough l dC dI cB cI cJ cZ cQ aL aS q _ ta x1 x3 hI hta hx1 hx3) (cwV 2 hts (goodVk (wk_in_9 _ (List.mem_of_getElem? (i := 29) rfl)) (wk_in_9 _ (List.mem_of_getElem? (i := 30) rfl)) (wk_in_9 _ (List.mem_of_getElem? (i := 31) rfl)) (wk_in_0 _ (List.mem_of_getElem? (i := 6) rfl)) (wk_in_9 _ (List.mem_of_getElem? (i := 2) rfl))) rfl rfl rfl (by decide +kernel) ⟨Nat.le_of_ble_eq_true rfl, Nat.le_of_ble_eq_true rfl⟩) hK hDD hA0 hP hS ta 9 (wkT hta) rfl rfl hl.1 (Nat.le_of_ble_eq_true rfl) dX9_toldAct_31 (fun z2 A3 H locs hw4 hP hS => ?_)
    obtain ⟨hI, hf5, hw4⟩ := hw4
    exact RET z2 _ _ _ _ _ ⟨hI, fk.trans (fk.rf) hf5 rfl rfl, hw4⟩ hP hS dX9_toldAct_34
  · refine tp_i (y := iI 1) (congrArg iI c1) ?_
    refine lv_tableIn (off := 34) (tgt := 35) hx hb dX9_toldAct_1 (by decide +kernel) (by decide +kernel) (by decide +kernel) (by decide) ?_
    refine lv_aload_n hx hb dX9_toldAct_35 rfl (lv_at hl 0 rfl) ?_
    refine lv_iload_n hx hb dX9_toldAct_36 rfl (lv_at hl 1 rfl) ?_
    refine lv_iload_n hx hb dX9_toldAct_37 rfl (lv_at hl 3 rfl) ?_
    refine k_calli (As := [.int (iI x1), .int (iI x3)]) (rest := []) ⟨hx, hb, hml, hown, hts⟩ hE (kc_X9_openWith l dC dI cB cI cJ cZ cQ aL aS q _ ta x1 x3 hI hta hx1 hx3) (cwV 2 hts (goodVk (wk_in_9 _ (List.mem_of_getElem? (i := 32) rfl)) (wk_in_9 _ (List.mem_of_getElem? (i := 33) rfl)) (wk_in_9 _ (List.mem_of_getElem? (i := 34) rfl)) (wk_in_0 _ (List.mem_of_getElem? (i := 6) rfl)) (wk_in_9 _ (List.mem_of_getElem? (i := 9) rfl))) rfl rfl rfl (by decide +kernel) ⟨Nat.le_of_ble_eq_true rfl, Nat.le_of_ble_eq_true rfl⟩) hK hDD hA0 hP hS ta 9 (wkT hta) rfl rfl hl.1 (Nat.le_of_ble_eq_true rfl) dX9_toldAct_38 (fun z6 A7 H locs hw8 hP hS => ?_)
    obtain ⟨hI, hf9, hw8⟩ := hw8
    exact RET z6 _ _ _ _ _ ⟨hI, fk.trans (fk.rf) hf9 rfl rfl, hw8⟩ hP hS dX9_toldAct_41
  · refine tp_i (y := iI 2) (congrArg iI c1) ?_
    refine lv_tableIn (off := 41) (tgt := 42) hx hb dX9_toldAct_1 (by decide +kernel) (by decide +kernel) (by decide +kernel) (by decide) ?_
    refine lv_aload_n hx hb dX9_toldAct_42 rfl (lv_at hl 0 rfl) ?_
    refine lv_iload_n hx hb dX9_toldAct_43 rfl (lv_at hl 1 rfl) ?_
    refine lv_aload_n hx hb dX9_toldAct_44 rfl (lv_at hl 0 rfl) ?_
    refine lv_iload_n hx hb dX9_toldAct_45 rfl (lv_at hl 1 rfl) ?_
    refine lv_iload_n hx hb dX9_toldAct_46 rfl (lv_at hl 3 rfl) ?_
    refine k_calli (As := [.int (iI x1), .int (iI x3)]) (rest := [.int (iI x1), .ref (q ta)]) ⟨hx, hb, hml, hown, hts⟩ hE (kc_X9_shuttingKey l dC dI cB cI cJ cZ cQ aL aS q _ ta x1 x3 hI hta hx1 hx3) (cwV 2 hts (goodVk (wk_in_9 _ (List.mem_of_getElem? (i := 35) rfl)) (wk_in_9 _ (List.mem_of_getElem? (i := 36) rfl)) (wk_in_9 _ (List.mem_of_getElem? (i := 37) rfl)) (wk_in_0 _ (List.mem_of_getElem? (i := 6) rfl)) (wk_in_9 _ (List.mem_of_getElem? (i := 38) rfl))) rfl rfl rfl (by decide +kernel) ⟨Nat.le_of_ble_eq_true rfl, Nat.le_of_ble_eq_true rfl⟩) hK hDD hA0 hP hS ta 9 (wkT hta) rfl rfl hl.1 (Nat.le_of_ble_eq_true rfl) dX9_toldAct_47 (fun z10 A11 H locs hw12 hP hS => ?_)
    obtain ⟨rfl, hw12⟩ := hw12
    refine lv_iload_n hx hb dX9_toldAct_50 rfl (lv_at hl 3 rfl) ?_
    refine k_calli (As := [.int (iI x1), .int (iI z10), .int (iI x3)]) (rest := []) ⟨hx, hb, hml, hown, hts⟩ hE (kc_X9_shutWith l dC dI cB cI cJ cZ cQ aL aS q _ ta x1 z10 x3 hI hta hx1 (rb hw12 (by decide) (by decide)) hx3) (cwV 3 hts (goodVk (wk_in_9 _ (List.mem_of_getElem? (i := 39) rfl)) (wk_in_9 _ (List.mem_of_getElem? (i := 40) rfl)) (wk_in_9 _ (List.mem_of_getElem? (i := 41) rfl)) (wk_in_0 _ (List.mem_of_getElem? (i := 6) rfl)) (wk_in_9 _ (List.mem_of_getElem? (i := 16) rfl))) rfl rfl rfl (by decide +kernel) ⟨Nat.le_of_ble_eq_true rfl, Nat.le_of_ble_eq_true rfl⟩) hK hDD hA0 hP hS ta 9 (wkT hta) rfl rfl hl.1 (Nat.le_of_ble_eq_true rfl) dX9_toldAct_51 (fun z13 A14 H locs hw15 hP hS => ?_)
    obtain ⟨hI, hf16, hw15⟩ := hw15
    exact RET z13 _ _ _ _ _ ⟨hI, fk.trans (fk.rf) hf16 rfl rfl, hw15⟩ hP hS dX9_toldAct_54

def ws_kc_X9_holdersOf : List Cond := .code yX9_holdersOf cX9_holdersOf 4 (some .int) :: WY
set_option maxHeartbeats 4000000 in
set_option maxRecDepth 100000 in
theorem kc_X9_holdersOf (l : Launch) (dC : Nat → ClassId) (dI : Nat → Nat → Nat) (cB cI cJ cZ cQ : ClassId) (aL aS : Nat) (q : Nat → Nat) (A : St) (ta : Nat) (x1 : Int) (hI : IK A) (hta : isT ta) (hx1 : (-2147483648 : Int) ≤ x1 ∧ x1 ≤ 2147483647) : KMi l yX9_holdersOf ws_kc_X9_holdersOf ({ frames := 2, cells := 0, slots := 0, locals := 45 } : Room) aL aS (dC, dI) (tyA cB cI cJ cZ cQ) (WK cB cI cJ cZ cQ q) A [.ref (q ta), .int (iI x1)] (fun z u => A = u ∧ (-2147483648 ≤ z ∧ z ≤ 2147483647)) := by
  refine k_meti (cc := cX9_holdersOf) (maxL := 4) WK_adr (plainFor_of_name (by decide +kernel)) rfl (Nat.le_of_ble_eq_true rfl) (fun p e s m below meth c Q AS ls hx hb hml hown hts hK hDD hA0 hE RET H locs hP hS hl => ?_)
  have hown : s.vm.findClass RX9 = some m.cls := hown
  have hl : lv_has ls 4 [(0, .ref (q ta)), (1, .int (iI x1))] := hl
  have hiX9 : ∀ w ∈ u_ws RX9 TX9 16, w ∈ ws_kc_X9_holdersOf := fun w h => List.mem_cons_of_mem _ (wy_layX9 w h)
  have hiX6 : ∀ w ∈ u_ws RX6 TX6 4, w ∈ ws_kc_X9_holdersOf := fun w h => List.mem_cons_of_mem _ (wy_layX6 w h)
  refine lv_aload_n hx hb dX9_holdersOf_0 rfl (lv_at hl 0 rfl) ?_
  have r1 : (-2147483648 : Int) ≤ (A ta 15) ∧ (A ta 15) ≤ 2147483647 := irT_15 hta hI
  refine va_get (D := (dC, dI)) (ci := 9) (v := .int (iI (A ta 15))) (C := RX9) (T := TX9) (N := 16) hx hb hts hiX9 hown hK hP ta (wkT hta) rfl 15 (by decide) (hts _ (List.mem_cons_of_mem _ (wk_in_5 _ (List.mem_of_getElem? (i := 18) rfl)))) (fun _ h9 => h9) rfl dX9_holdersOf_1 ?_
  refine lv_iload_n hx hb dX9_holdersOf_4 rfl (lv_at hl 1 rfl) ?_
  refine lv_ishr hx hb dX9_holdersOf_5 ?_
  refine x_abs (fun z2 hz2 => ?_)
  refine lv_iconst (v := iI 1) hx hb dX9_holdersOf_6 (by decide +kernel) ?_
  refine lv_iand hx hb dX9_holdersOf_7 ?_
  refine x_and (b := 1) (by omega) (fun z3 hz3 => ?_)
  refine lv_if_eq (tgt := 13) hx hb dX9_holdersOf_8 (by decide) (fun c4 => ?_) (fun c4 => ?_)
  · have c4 : z3 = 0 := (i_eq0 (by omega)).mp c4
    refine lv_iconst (v := iI 0) hx hb dX9_holdersOf_13 (by decide +kernel) ?_
    refine lv_istore_n (lv' := [(2, .int (iI 0)), (0, .ref (q ta)), (1, .int (iI x1))]) hx hb dX9_holdersOf_14 rfl hl (by decide) rfl (fun ls hl => ?_)
    refine lv_iconst (v := iI 0) hx hb dX9_holdersOf_15 (by decide +kernel) ?_
    refine lv_istore_n (lv' := [(3, .int (iI 0)), (2, .int (iI 0)), (0, .ref (q ta)), (1, .int (iI x1))]) hx hb dX9_holdersOf_16 rfl hl (by decide) rfl (fun ls hl => ?_)
    have L17_8 : ∀ (n13 : Nat) (z5 z6 : Int) (H : Heap) (locs : List Loc) (ls : Array Slot), (0 ≤ z5 ∧ z5 ≤ 2147483647) → (-2147483648 ≤ z6 ∧ z6 ≤ 2147483647) → ((5 - z5).toNat = n13) → va_P (dC, dI) vwCl (WK cB cI cJ cZ cQ q A) H → va_S AS s.heap H locs → lv_has ls 4 [(3, .int (iI z5)), (2, .int (iI z6)), (0, .ref (q ta)), (1, .int (iI x1))] → W p l e (headSpec ws_kc_X9_holdersOf ({ frames := 2, cells := 0, slots := 0, locals := 45 } : Room)).room s m [.ref (q ta), .int (iI x1)].toArray below meth c H locs 0 0 Q (F0 m 17 ls []) := by
      intro n13
      induction n13 using Nat.strongRecOn with
      | ind n13 ih9 =>
        intro z5 z6 H locs ls f10 f11 hn13 hP hS hl
        refine lv_iload_n hx hb dX9_holdersOf_17 rfl (lv_at hl 0 rfl) ?_
        refine lv_aload_n hx hb dX9_holdersOf_18 rfl (lv_at hl 2 rfl) ?_
        refine va_get (D := (dC, dI)) (ci := 9) (v := .ref (q (ta + 1))) (C := RX9) (T := TX9) (N := 16) hx hb hts hiX9 hown hK hP ta (wkT hta) rfl 0 (by decide) (hts _ (List.mem_cons_of_mem _ (wk_in_0 _ (List.mem_of_getElem? (i := 8) rfl)))) (fun _ h9 => h9) rfl dX9_holdersOf_19 ?_
        refine lv_iconst (v := iI 2) hx hb dX9_holdersOf_22 (by decide +kernel) ?_
        refine x_iald (Wf := WK cB cI cJ cZ cQ q) hx hb hK hP (ta + 1) 1 (wkTc hta) rfl (by decide) (by decide) dX9_holdersOf_23 (fun z14 hz14 => ?_)
        have rz14 : (0 : Int) ≤ z14 ∧ z14 ≤ 4 := by rw [hz14]; exact irTc2 hta hI
        refine lv_icmp_ge (tgt := 79) hx hb dX9_holdersOf_24 (by decide) (fun c15 => ?_) (fun c15 => ?_)
        · have c15 : z14 ≤ z5 := (i_le (rb rz14 (by decide) (by decide)) (rb f10 (by decide) (by decide))).mp c15
          refine lv_iload_n hx hb dX9_holdersOf_79 rfl (lv_at hl 1 rfl) ?_
          exact RET z6 _ _ _ _ _ ⟨rfl, f11⟩ hP hS dX9_holdersOf_80
        · have c15 : ¬ z14 ≤ z5 := mt (i_le (rb rz14 (by decide) (by decide)) (rb f10 (by decide) (by decide))).mpr c15
          refine lv_aload_n hx hb dX9_holdersOf_27 rfl (lv_at hl 2 rfl) ?_
          refine va_get (D := (dC, dI)) (ci := 9) (v := .ref (q (ta + 22))) (C := RX9) (T := TX9) (N := 16) hx hb hts hiX9 hown hK hP ta (wkT hta) rfl 14 (by decide) (hts _ (List.mem_cons_of_mem _ (wk_in_0 _ (List.mem_of_getElem? (i := 9) rfl)))) (fun _ h9 => h9) rfl dX9_holdersOf_28 ?_
          refine lv_iload_n hx hb dX9_holdersOf_31 rfl (lv_at hl 0 rfl) ?_
          refine lv_iload_n hx hb dX9_holdersOf_32 rfl (lv_at hl 3 rfl) ?_
          refine k_calli (As := [.int (iI z5), .int (iI x1)]) (rest := []) ⟨hx, hb, hml, hown, hts⟩ hE (kc_X6_placeInRow l dC dI cB cI cJ cZ cQ aL aS q _ (ta + 22) z5 x1 hI hta.s (rb f10 (by decide) (by decide)) hx1) (cwV 2 hts (goodVk (wk_in_8 _ (List.mem_of_getElem? (i := 58) rfl)) (wk_in_4 _ (List.mem_of_getElem? (i := 59) rfl)) (wk_in_5 _ (List.mem_of_getElem? (i := 0) rfl)) (wk_in_0 _ (List.mem_of_getElem? (i := 52) rfl)) (wk_in_5 _ (List.mem_of_getElem? (i := 1) rfl))) rfl rfl rfl (by decide +kernel) ⟨Nat.le_of_ble_eq_true rfl, Nat.le_of_ble_eq_true rfl⟩) hK hDD hA0 hP hS (ta + 22) 6 (wkS hta.s) rfl rfl hl.1 (Nat.le_of_ble_eq_true rfl) dX9_holdersOf_33 (fun z16 A17 H locs hw18 hP hS => ?_)
          obtain ⟨rfl, hw18⟩ := hw18
          refine lv_iconst (v := iI (-1)) hx hb dX9_holdersOf_36 (by decide +kernel) ?_
          have J73_20 : ∀ (z29 : Int) (H : Heap) (locs : List Loc) (ls : Array Slot), (-2147483648 ≤ z29 ∧ z29 ≤ 2147483647) → va_P (dC, dI) vwCl (WK cB cI cJ cZ cQ q A) H → va_S AS s.heap H locs → lv_has ls 4 [(3, .int (iI z5)), (2, .int (iI z29)), (0, .ref (q ta)), (1, .int (iI x1))] → W p l e (headSpec ws_kc_X9_holdersOf ({ frames := 2, cells := 0, slots := 0, locals := 45 } : Room)).room s m [.ref (q ta), .int (iI x1)].toArray below meth c H locs 0 0 Q (F0 m 73 ls []) := by
            intro z29 H locs ls f31 hP hS hl
            refine lv_iinc (v := iI (z5 + 1)) (lv' := [(3, .int (iI (z5 + 1))), (2, .int (iI z29)), (0, .ref (q ta)), (1, .int (iI x1))]) hx hb dX9_holdersOf_73 hl (k := 0) rfl (i_inc (by omega)) (by decide) rfl (fun ls hl => ?_)
            refine lv_goto (tgt := 17) hx hb dX9_holdersOf_76 (by decide) ?_
            exact ih9 _ (by omega) (z5 + 1) z29 _ _ _ (by omega) (by omega) rfl hP hS (lv_sub hl [0, 1, 2, 3] rfl)
          refine lv_icmp_eq (tgt := 73) hx hb dX9_holdersOf_37 (by decide) (fun c19 => ?_) (fun c19 => ?_)
          · have c19 : z16 = (-1) := (i_eq (rb hw18 (by decide) (by decide)) ⟨by decide, by decide⟩).mp c19
            exact J73_20 z6 _ _ _ (by omega) hP hS (lv_sub hl [0, 1, 2, 3] rfl)
          · have c19 : ¬ z16 = (-1) := mt (i_eq (rb hw18 (by decide) (by decide)) ⟨by decide, by decide⟩).mpr c19
            refine lv_aload_n hx hb dX9_holdersOf_40 rfl (lv_at hl 2 rfl) ?_
            refine lv_iconst (v := iI 3) hx hb dX9_holdersOf_41 (by decide +kernel) ?_
            refine lv_aload_n hx hb dX9_holdersOf_42 rfl (lv_at hl 2 rfl) ?_
            refine va_get (D := (dC, dI)) (ci := 9) (v := .ref (q (ta + 22))) (C := RX9) (T := TX9) (N := 16) hx hb hts hiX9 hown hK hP ta (wkT hta) rfl 14 (by decide) (hts _ (List.mem_cons_of_mem _ (wk_in_0 _ (List.mem_of_getElem? (i := 9) rfl)))) (fun _ h9 => h9) rfl dX9_holdersOf_43 ?_
            refine va_get (D := (dC, dI)) (ci := 6) (v := .ref (q ((ta + 22) + 2))) (C := RX6) (T := TX6) (N := 4) hx hb hts hiX6 hown hK hP (ta + 22) (wkS hta.s) rfl 1 (by decide) (hts _ (List.mem_cons_of_mem _ (wk_in_0 _ (List.mem_of_getElem? (i := 10) rfl)))) (fun _ h9 => h9) rfl dX9_holdersOf_46 ?_
            refine lv_iload_n hx hb dX9_holdersOf_49 rfl (lv_at hl 0 rfl) ?_
            refine x_iald (Wf := WK cB cI cJ cZ cQ q) hx hb hK hP ((ta + 22) + 2) 1 (wkSw hta.s) rfl (by omega) (by decide) dX9_holdersOf_50 (fun z21 hz21 => ?_)
            have rz21 : (-2147483648 : Int) ≤ z21 ∧ z21 ≤ 2147483647 := by rw [hz21]; exact irSw hta.s hI
            refine k_calli (As := [.int (iI 3), .int (iI z21)]) (rest := []) ⟨hx, hb, hml, hown, hts⟩ hE (kc_X9_isThere_1_3 l dC dI cB cI cJ cZ cQ aL aS q _ ta z21 hI hta rz21) (cwV 2 hts (goodVk (wk_in_2 _ (List.mem_of_getElem? (i := 52) rfl)) (wk_in_0 _ (List.mem_of_getElem? (i := 22) rfl)) (wk_in_0 _ (List.mem_of_getElem? (i := 23) rfl)) (wk_in_0 _ (List.mem_of_getElem? (i := 6) rfl)) (wk_in_0 _ (List.mem_of_getElem? (i := 24) rfl))) rfl rfl rfl (by decide +kernel) ⟨Nat.le_of_ble_eq_true rfl, Nat.le_of_ble_eq_true rfl⟩) hK hDD hA0 hP hS ta 9 (wkT hta) rfl rfl hl.1 (Nat.le_of_ble_eq_true rfl) dX9_holdersOf_51 (fun z22 A23 H locs hw24 hP hS => ?_)
            obtain ⟨rfl, hw24⟩ := hw24
            have rz22 : 0 ≤ z22 ∧ z22 ≤ 1 := hw24.1
            have hw24 := hw24.2
            refine lv_if_ne (tgt := 59) hx hb dX9_holdersOf_54 (by decide) (fun c25 => ?_) (fun c25 => ?_)
            · have c25 : ¬ z22 = 0 := mt (i_eq0 (rb rz22 (by decide) (by decide))).mpr c25
              have hw24b := hw24 (by omega)
              clear hw24
              refine lv_iload_n hx hb dX9_holdersOf_59 rfl (lv_at hl 1 rfl) ?_
              refine lv_iconst (v := iI 1) hx hb dX9_holdersOf_60 (by decide +kernel) ?_
              refine lv_aload_n hx hb dX9_holdersOf_61 rfl (lv_at hl 2 rfl) ?_
              refine va_get (D := (dC, dI)) (ci := 9) (v := .ref (q (ta + 22))) (C := RX9) (T := TX9) (N := 16) hx hb hts hiX9 hown hK hP ta (wkT hta) rfl 14 (by decide) (hts _ (List.mem_cons_of_mem _ (wk_in_0 _ (List.mem_of_getElem? (i := 9) rfl)))) (fun _ h9 => h9) rfl dX9_holdersOf_62 ?_
              refine va_get (D := (dC, dI)) (ci := 6) (v := .ref (q ((ta + 22) + 2))) (C := RX6) (T := TX6) (N := 4) hx hb hts hiX6 hown hK hP (ta + 22) (wkS hta.s) rfl 1 (by decide) (hts _ (List.mem_cons_of_mem _ (wk_in_0 _ (List.mem_of_getElem? (i := 10) rfl)))) (fun _ h9 => h9) rfl dX9_holdersOf_65 ?_
              refine lv_iload_n hx hb dX9_holdersOf_68 rfl (lv_at hl 0 rfl) ?_
              refine x_iald (Wf := WK cB cI cJ cZ cQ q) hx hb hK hP ((ta + 22) + 2) 1 (wkSw hta.s) rfl (by omega) (by decide) dX9_holdersOf_69 (fun z26 hz26 => ?_)
              have rz26 : (-2147483648 : Int) ≤ z26 ∧ z26 ≤ 2147483647 := by rw [hz26]; exact irSw hta.s hI
              have ez26 : z26 = z21 := hz26.trans hz21.symm
              refine tp_i (y := iI z21) (congrArg iI ez26) ?_
              refine lv_ishl hx hb dX9_holdersOf_70 ?_
              refine x_abs (fun z27 hz27 => ?_)
              refine lv_ior hx hb dX9_holdersOf_71 ?_
              refine x_abs (fun z28 hz28 => ?_)
              refine lv_istore_n (lv' := [(2, .int (iI z28)), (3, .int (iI z5)), (0, .ref (q ta)), (1, .int (iI x1))]) hx hb dX9_holdersOf_72 rfl hl (by decide) rfl (fun ls hl => ?_)
              exact J73_20 z28 _ _ _ (by omega) hP hS (lv_sub hl [1, 0, 2, 3] rfl)
            · have c25 : z22 = 0 := (i_eq0 (rb rz22 (by decide) (by decide))).mp c25
              clear hw24
              refine lv_iconst (v := iI (-1)) hx hb dX9_holdersOf_57 (by decide +kernel) ?_
              exact RET (-1) _ _ _ _ _ ⟨rfl, ⟨by decide, by decide⟩⟩ hP hS dX9_holdersOf_58
    exact L17_8 _ 0 0 _ _ _ (by omega) (by omega) rfl hP hS (lv_sub hl [0, 1, 2, 3] rfl)
  · have c4 : ¬ z3 = 0 := mt (i_eq0 (by omega)).mpr c4
    refine lv_iconst (v := iI (-1)) hx hb dX9_holdersOf_11 (by decide +kernel) ?_
    exact RET (-1) _ _ _ _ _ ⟨rfl, ⟨by decide, by decide⟩⟩ hP hS dX9_holdersOf_12

def ws_kc_X9_workOf : List Cond := .code yX9_workOf cX9_workOf 5 (some .int) :: WY
set_option maxHeartbeats 4000000 in
set_option maxRecDepth 100000 in
theorem kc_X9_workOf (l : Launch) (dC : Nat → ClassId) (dI : Nat → Nat → Nat) (cB cI cJ cZ cQ : ClassId) (aL aS : Nat) (q : Nat → Nat) (A : St) (ta : Nat) (x1 : Int) (hI : IK A) (hta : isT ta) (hx1 : (-2147483648 : Int) ≤ x1 ∧ x1 ≤ 2147483647) : KMi l yX9_workOf ws_kc_X9_workOf ({ frames := 2, cells := 0, slots := 0, locals := 45 } : Room) aL aS (dC, dI) (tyA cB cI cJ cZ cQ) (WK cB cI cJ cZ cQ q) A [.ref (q ta), .int (iI x1)] (fun z u => A = u ∧ (-2147483648 ≤ z ∧ z ≤ 2147483647)) := by
  refine k_meti (cc := cX9_workOf) (maxL := 5) WK_adr (plainFor_of_name (by decide +kernel)) rfl (Nat.le_of_ble_eq_true rfl) (fun p e s m below meth c Q AS ls hx hb hml hown hts hK hDD hA0 hE RET H locs hP hS hl => ?_)
  have hown : s.vm.findClass RX9 = some m.cls := hown
  have hl : lv_has ls 5 [(0, .ref (q ta)), (1, .int (iI x1))] := hl
  have hiX9 : ∀ w ∈ u_ws RX9 TX9 16, w ∈ ws_kc_X9_workOf := fun w h => List.mem_cons_of_mem _ (wy_layX9 w h)
  have hiX6 : ∀ w ∈ u_ws RX6 TX6 4, w ∈ ws_kc_X9_workOf := fun w h => List.mem_cons_of_mem _ (wy_layX6 w h)
  refine lv_iconst (v := iI 0) hx hb dX9_workOf_0 (by decide +kernel) ?_
  refine lv_istore_n (lv' := [(2, .int (iI 0)), (0, .ref (q ta)), (1, .int (iI x1))]) hx hb dX9_workOf_1 rfl hl (by decide) rfl (fun ls hl => ?_)
  refine lv_iconst (v := iI 0) hx hb dX9_workOf_2 (by decide +kernel) ?_
  refine lv_istore_n (lv' := [(3, .int (iI 0)), (2, .int (iI 0)), (0, .ref (q ta)), (1, .int (iI x1))]) hx hb dX9_workOf_3 rfl hl (by decide) rfl (fun ls hl => ?_)
  have L4_4 : ∀ (n9 : Nat) (z1 z2 : Int) (H : Heap) (locs : List Loc) (ls : Array Slot), (0 ≤ z1 ∧ z1 ≤ 2147483647) → (-2147483648 ≤ z2 ∧ z2 ≤ 2147483647) → ((5 - z1).toNat = n9) → va_P (dC, dI) vwCl (WK cB cI cJ cZ cQ q A) H → va_S AS s.heap H locs → lv_has ls 5 [(3, .int (iI z1)), (2, .int (iI z2)), (0, .ref (q ta)), (1, .int (iI x1))] → W p l e (headSpec ws_kc_X9_workOf ({ frames := 2, cells := 0, slots := 0, locals := 45 } : Room)).room s m [.ref (q ta), .int (iI x1)].toArray below meth c H locs 0 0 Q (F0 m 4 ls []) := by
    intro n9
    induction n9 using Nat.strongRecOn with
    | ind n9 ih5 =>
      intro z1 z2 H locs ls f6 f7 hn9 hP hS hl
      refine lv_iload_n hx hb dX9_workOf_4 rfl (lv_at hl 0 rfl) ?_
      refine lv_aload_n hx hb dX9_workOf_5 rfl (lv_at hl 2 rfl) ?_
      refine va_get (D := (dC, dI)) (ci := 9) (v := .ref (q (ta + 1))) (C := RX9) (T := TX9) (N := 16) hx hb hts hiX9 hown hK hP ta (wkT hta) rfl 0 (by decide) (hts _ (List.mem_cons_of_mem _ (wk_in_0 _ (List.mem_of_getElem? (i := 8) rfl)))) (fun _ h9 => h9) rfl dX9_workOf_6 ?_
      refine lv_iconst (v := iI 2) hx hb dX9_workOf_9 (by decide +kernel) ?_
      refine x_iald (Wf := WK cB cI cJ cZ cQ q) hx hb hK hP (ta + 1) 1 (wkTc hta) rfl (by decide) (by decide) dX9_workOf_10 (fun z10 hz10 => ?_)
      have rz10 : (0 : Int) ≤ z10 ∧ z10 ≤ 4 := by rw [hz10]; exact irTc2 hta hI
      refine lv_icmp_ge (tgt := 52) hx hb dX9_workOf_11 (by decide) (fun c11 => ?_) (fun c11 => ?_)
      · have c11 : z10 ≤ z1 := (i_le (rb rz10 (by decide) (by decide)) (rb f6 (by decide) (by decide))).mp c11
        refine lv_iload_n hx hb dX9_workOf_52 rfl (lv_at hl 1 rfl) ?_
        exact RET z2 _ _ _ _ _ ⟨rfl, f7⟩ hP hS dX9_workOf_53
      · have c11 : ¬ z10 ≤ z1 := mt (i_le (rb rz10 (by decide) (by decide)) (rb f6 (by decide) (by decide))).mpr c11
        refine lv_aload_n hx hb dX9_workOf_14 rfl (lv_at hl 2 rfl) ?_
        refine va_get (D := (dC, dI)) (ci := 9) (v := .ref (q (ta + 22))) (C := RX9) (T := TX9) (N := 16) hx hb hts hiX9 hown hK hP ta (wkT hta) rfl 14 (by decide) (hts _ (List.mem_cons_of_mem _ (wk_in_0 _ (List.mem_of_getElem? (i := 9) rfl)))) (fun _ h9 => h9) rfl dX9_workOf_15 ?_
        refine lv_iload_n hx hb dX9_workOf_18 rfl (lv_at hl 0 rfl) ?_
        refine lv_iload_n hx hb dX9_workOf_19 rfl (lv_at hl 3 rfl) ?_
        refine k_calli (As := [.int (iI z1), .int (iI x1)]) (rest := []) ⟨hx, hb, hml, hown, hts⟩ hE (kc_X6_placeInRow l dC dI cB cI cJ cZ cQ aL aS q _ (ta + 22) z1 x1 hI hta.s (rb f6 (by decide) (by decide)) hx1) (cwV 2 hts (goodVk (wk_in_8 _ (List.mem_of_getElem? (i := 58) rfl)) (wk_in_4 _ (List.mem_of_getElem? (i := 59) rfl)) (wk_in_5 _ (List.mem_of_getElem? (i := 0) rfl)) (wk_in_0 _ (List.mem_of_getElem? (i := 52) rfl)) (wk_in_5 _ (List.mem_of_getElem? (i := 1) rfl))) rfl rfl rfl (by decide +kernel) ⟨Nat.le_of_ble_eq_true rfl, Nat.le_of_ble_eq_true rfl⟩) hK hDD hA0 hP hS (ta + 22) 6 (wkS hta.s) rfl rfl hl.1 (Nat.le_of_ble_eq_true rfl) dX9_workOf_20 (fun z12 A13 H locs hw14 hP hS => ?_)
        obtain ⟨rfl, hw14⟩ := hw14
        refine lv_istore (lv' := [(4, .int (iI z12)), (3, .int (iI z1)), (2, .int (iI z2)), (0, .ref (q ta)), (1, .int (iI x1))]) hx hb dX9_workOf_23 hl (by decide) rfl (fun ls hl => ?_)
        refine lv_iload hx hb dX9_workOf_25 (lv_at hl 0 rfl) ?_
        refine lv_iconst (v := iI (-1)) hx hb dX9_workOf_27 (by decide +kernel) ?_
        have J46_16 : ∀ (z19 : Int) (H : Heap) (locs : List Loc) (ls : Array Slot), (-2147483648 ≤ z19 ∧ z19 ≤ 2147483647) → va_P (dC, dI) vwCl (WK cB cI cJ cZ cQ q A) H → va_S AS s.heap H locs → lv_has ls 5 [(4, .int (iI z12)), (3, .int (iI z1)), (2, .int (iI z19)), (0, .ref (q ta)), (1, .int (iI x1))] → W p l e (headSpec ws_kc_X9_workOf ({ frames := 2, cells := 0, slots := 0, locals := 45 } : Room)).room s m [.ref (q ta), .int (iI x1)].toArray below meth c H locs 0 0 Q (F0 m 46 ls []) := by
          intro z19 H locs ls f21 hP hS hl
          refine lv_iinc (v := iI (z1 + 1)) (lv' := [(3, .int (iI (z1 + 1))), (4, .int (iI z12)), (2, .int (iI z19)), (0, .ref (q ta)), (1, .int (iI x1))]) hx hb dX9_workOf_46 hl (k := 1) rfl (i_inc (by omega)) (by decide) rfl (fun ls hl => ?_)
          refine lv_goto (tgt := 4) hx hb dX9_workOf_49 (by decide) ?_
          exact ih5 _ (by omega) (z1 + 1) z19 _ _ _ (by omega) (by omega) rfl hP hS (lv_sub hl [0, 2, 3, 4] rfl)
        refine lv_icmp_eq (tgt := 46) hx hb dX9_workOf_28 (by decide) (fun c15 => ?_) (fun c15 => ?_)
        · have c15 : z12 = (-1) := (i_eq (rb hw14 (by decide) (by decide)) ⟨by decide, by decide⟩).mp c15
          exact J46_16 z2 _ _ _ (by omega) hP hS (lv_sub hl [0, 1, 2, 3, 4] rfl)
        · have c15 : ¬ z12 = (-1) := mt (i_eq (rb hw14 (by decide) (by decide)) ⟨by decide, by decide⟩).mpr c15
          refine lv_iload_n hx hb dX9_workOf_31 rfl (lv_at hl 2 rfl) ?_
          refine lv_aload_n hx hb dX9_workOf_32 rfl (lv_at hl 3 rfl) ?_
          refine va_get (D := (dC, dI)) (ci := 9) (v := .ref (q (ta + 22))) (C := RX9) (T := TX9) (N := 16) hx hb hts hiX9 hown hK hP ta (wkT hta) rfl 14 (by decide) (hts _ (List.mem_cons_of_mem _ (wk_in_0 _ (List.mem_of_getElem? (i := 9) rfl)))) (fun _ h9 => h9) rfl dX9_workOf_33 ?_
          refine va_get (D := (dC, dI)) (ci := 6) (v := .ref (q ((ta + 22) + 3))) (C := RX6) (T := TX6) (N := 4) hx hb hts hiX6 hown hK hP (ta + 22) (wkS hta.s) rfl 2 (by decide) (hts _ (List.mem_cons_of_mem _ (wk_in_5 _ (List.mem_of_getElem? (i := 15) rfl)))) (fun _ h9 => h9) rfl dX9_workOf_36 ?_
          refine lv_iload_n hx hb dX9_workOf_39 rfl (lv_at hl 1 rfl) ?_
          refine x_iald (Wf := WK cB cI cJ cZ cQ q) hx hb hK hP ((ta + 22) + 3) 1 (wkSz hta.s) rfl (by omega) (by decide) dX9_workOf_40 (fun z17 hz17 => ?_)
          have rz17 : (0 : Int) ≤ z17 ∧ z17 ≤ 6 := by rw [hz17]; exact irSz hta.s hI
          refine lv_iload hx hb dX9_workOf_41 (lv_at hl 0 rfl) ?_
          refine x_subv (v := z17 - z12) hx hb dX9_workOf_43 (by omega) ?_
          refine x_addv (v := z2 + z17 - z12) hx hb dX9_workOf_44 (by omega) ?_
          refine x_abs (fun z18 hz18 => ?_)
          refine lv_istore_n (lv' := [(2, .int (iI z18)), (4, .int (iI z12)), (3, .int (iI z1)), (0, .ref (q ta)), (1, .int (iI x1))]) hx hb dX9_workOf_45 rfl hl (by decide) rfl (fun ls hl => ?_)
          exact J46_16 z18 _ _ _ (by omega) hP hS (lv_sub hl [1, 2, 0, 3, 4] rfl)
  exact L4_4 _ 0 0 _ _ _ (by omega) (by omega) rfl hP hS (lv_sub hl [0, 1, 2, 3] rfl)

def ws_kc_X10_shorten : List Cond := .code yX10_shorten cX10_shorten 4 none :: WY
set_option maxHeartbeats 4000000 in
set_option maxRecDepth 100000 in
theorem kc_X10_shorten (l : Launch) (dC : Nat → ClassId) (dI : Nat → Nat → Nat) (cB cI cJ cZ cQ : ClassId) (aL aS : Nat) (q : Nat → Nat) (A : St) (x1 x2 x3 : Int) (hI : IK A) (hx1 : (-2147483648 : Int) ≤ x1 ∧ x1 ≤ 2147483647) (hx2 : (-2147483648 : Int) ≤ x2 ∧ x2 ≤ 2147483647) (hx3 : (-2147483648 : Int) ≤ x3 ∧ x3 ≤ 2147483647) : KMv l yX10_shorten ws_kc_X10_shorten ({ frames := 1, cells := 0, slots := 0, locals := 21 } : Room) aL aS (dC, dI) (tyA cB cI cJ cZ cQ) (WK cB cI cJ cZ cQ q) A [.ref (q 27), .int (iI x1), .int (iI x2), .int (iI x3)] (fun u => IK u ∧ fk [28] [] A u ∧ (True)) := by
  refine k_metv (cc := cX10_shorten) (maxL := 4) WK_adr (plainFor_of_name (by decide +kernel)) rfl (Nat.le_of_ble_eq_true rfl) (fun p e s m below meth c Q AS ls hx hb hml hown hts hK hDD hA0 hE RET H locs hP hS hl => ?_)
  have hown : s.vm.findClass RX10 = some m.cls := hown
  have hl : lv_has ls 4 [(0, .ref (q 27)), (1, .int (iI x1)), (2, .int (iI x2)), (3, .int (iI x3))] := hl
  have hiX10 : ∀ w ∈ u_ws RX10 TX10 2, w ∈ ws_kc_X10_shorten := fun w h => List.mem_cons_of_mem _ (wy_layX10 w h)
  refine lv_iload_n hx hb dX10_shorten_0 rfl (lv_at hl 1 rfl) ?_
  refine lv_if_lt (tgt := 46) hx hb dX10_shorten_1 (by decide) (fun c1 => ?_) (fun c1 => ?_)
  · have c1 : x1 < 0 := (i_lt0 hx1).mp c1
    exact RET _ _ _ _ _ ⟨hI, fk.rf, trivial⟩ hP hS dX10_shorten_46
  · have c1 : ¬ x1 < 0 := mt (i_lt0 hx1).mpr c1
    refine lv_iload_n hx hb dX10_shorten_4 rfl (lv_at hl 1 rfl) ?_
    refine lv_bipush (v := iI 8) hx hb dX10_shorten_5 (by decide +kernel) ?_
    refine lv_icmp_ge (tgt := 46) hx hb dX10_shorten_7 (by decide) (fun c2 => ?_) (fun c2 => ?_)
    · have c2 : 8 ≤ x1 := (i_le ⟨by decide, by decide⟩ hx1).mp c2
      exact RET _ _ _ _ _ ⟨hI, fk.rf, trivial⟩ hP hS dX10_shorten_46
    · have c2 : ¬ 8 ≤ x1 := mt (i_le ⟨by decide, by decide⟩ hx1).mpr c2
      refine lv_iload_n hx hb dX10_shorten_10 rfl (lv_at hl 2 rfl) ?_
      refine lv_if_lt (tgt := 46) hx hb dX10_shorten_11 (by decide) (fun c3 => ?_) (fun c3 => ?_)
      · have c3 : x2 < 0 := (i_lt0 hx2).mp c3
        exact RET _ _ _ _ _ ⟨hI, fk.rf, trivial⟩ hP hS dX10_shorten_46
      · have c3 : ¬ x2 < 0 := mt (i_lt0 hx2).mpr c3
        refine lv_iload_n hx hb dX10_shorten_14 rfl (lv_at hl 2 rfl) ?_
        refine lv_bipush (v := iI 8) hx hb dX10_shorten_15 (by decide +kernel) ?_
        refine lv_icmp_ge (tgt := 46) hx hb dX10_shorten_17 (by decide) (fun c4 => ?_) (fun c4 => ?_)
        · have c4 : 8 ≤ x2 := (i_le ⟨by decide, by decide⟩ hx2).mp c4
          exact RET _ _ _ _ _ ⟨hI, fk.rf, trivial⟩ hP hS dX10_shorten_46
        · have c4 : ¬ 8 ≤ x2 := mt (i_le ⟨by decide, by decide⟩ hx2).mpr c4
          refine lv_aload_n hx hb dX10_shorten_20 rfl (lv_at hl 0 rfl) ?_
          refine va_get (D := (dC, dI)) (ci := 10) (v := .ref (q 28)) (C := RX10) (T := TX10) (N := 2) hx hb hts hiX10 hown hK hP 27 (wkWT) rfl 0 (by decide) (hts _ (List.mem_cons_of_mem _ (wk_in_9 _ (List.mem_of_getElem? (i := 53) rfl)))) (fun _ h9 => h9) rfl dX10_shorten_21 ?_
          refine lv_iload_n hx hb dX10_shorten_24 rfl (lv_at hl 1 rfl) ?_
          refine lv_bipush (v := iI 8) hx hb dX10_shorten_25 (by decide +kernel) ?_
          refine x_mulv (v := 8 * x1) hx hb dX10_shorten_27 (by omega) ?_
          refine lv_iload_n hx hb dX10_shorten_28 rfl (lv_at hl 2 rfl) ?_
          refine x_addv (v := 8 * x1 + x2) hx hb dX10_shorten_29 (by omega) ?_
          refine lv_aload_n hx hb dX10_shorten_30 rfl (lv_at hl 0 rfl) ?_
          refine va_get (D := (dC, dI)) (ci := 10) (v := .ref (q 28)) (C := RX10) (T := TX10) (N := 2) hx hb hts hiX10 hown hK hP 27 (wkWT) rfl 0 (by decide) (hts _ (List.mem_cons_of_mem _ (wk_in_9 _ (List.mem_of_getElem? (i := 53) rfl)))) (fun _ h9 => h9) rfl dX10_shorten_31 ?_
          refine lv_iload_n hx hb dX10_shorten_34 rfl (lv_at hl 1 rfl) ?_
          refine lv_bipush (v := iI 8) hx hb dX10_shorten_35 (by decide +kernel) ?_
          refine x_mulv (v := 8 * x1) hx hb dX10_shorten_37 (by omega) ?_
          refine lv_iload_n hx hb dX10_shorten_38 rfl (lv_at hl 2 rfl) ?_
          refine x_addv (v := 8 * x1 + x2) hx hb dX10_shorten_39 (by omega) ?_
          refine x_iald (Wf := WK cB cI cJ cZ cQ q) hx hb hK hP 28 1 (wkWTw) rfl (by omega) (by decide) dX10_shorten_40 (fun z5 hz5 => ?_)
          have rz5 : (-2147483648 : Int) ≤ z5 ∧ z5 ≤ 2147483647 := by rw [hz5]; exact irWTw hI
          refine lv_iload_n hx hb dX10_shorten_41 rfl (lv_at hl 3 rfl) ?_
          refine k_min hx hb (hml.trans hl.1.symm) hown (hts _ (List.mem_cons_of_mem _ (wk_in_10 _ (List.mem_of_getElem? (i := 3) rfl)))) (hts _ (List.mem_cons_of_mem _ (wk_in_0 _ (List.mem_of_getElem? (i := 46) rfl)))) (hts _ (List.mem_cons_of_mem _ (wk_in_0 _ (List.mem_of_getElem? (i := 47) rfl)))) (hts _ (List.mem_cons_of_mem _ (wk_in_0 _ (List.mem_of_getElem? (i := 48) rfl)))) (Nat.le_of_ble_eq_true rfl) (Nat.le_of_ble_eq_true rfl) (Nat.zero_le _) (Nat.zero_le _) rz5 hx3 dX10_shorten_42 (fun z6 hz6 => ?_)
          have rz6 : (-2147483648 : Int) ≤ z6 ∧ z6 ≤ 2147483647 := by omega
          clear hz6
          refine k_iast (Wf := WK cB cI cJ cZ cQ q) hx hb hK hP hDD hS 28 1 (wkWTw) rfl (by omega) (by decide) dX10_shorten_45 (wsWTw) (fun H locs A7 hA7 hP hS => ?_)
          have hI := isWTw hA7 hI (show (-2147483648 : Int) ≤ z6 ∧ z6 ≤ 2147483647 from rz6)
          exact RET _ _ _ _ _ ⟨hI, fk.da (fk.rf) hA7 rfl, trivial⟩ hP hS dX10_shorten_46

def ws_kc_X10_wayOf : List Cond := .code yX10_wayOf cX10_wayOf 3 (some .int) :: WY
set_option maxHeartbeats 4000000 in
set_option maxRecDepth 100000 in
theorem kc_X10_wayOf (l : Launch) (dC : Nat → ClassId) (dI : Nat → Nat → Nat) (cB cI cJ cZ cQ : ClassId) (aL aS : Nat) (q : Nat → Nat) (A : St) (x1 x2 : Int) (hI : IK A) (hx1 : (-2147483648 : Int) ≤ x1 ∧ x1 ≤ 2147483647) (hx2 : (-2147483648 : Int) ≤ x2 ∧ x2 ≤ 2147483647) : KMi l yX10_wayOf ws_kc_X10_wayOf ({ frames := 0, cells := 0, slots := 0, locals := 0 } : Room) aL aS (dC, dI) (tyA cB cI cJ cZ cQ) (WK cB cI cJ cZ cQ q) A [.ref (q 27), .int (iI x1), .int (iI x2)] (fun z u => A = u ∧ (-2147483648 ≤ z ∧ z ≤ 2147483647)) := by
  refine k_meti (cc := cX10_wayOf) (maxL := 3) WK_adr (plainFor_of_name (by decide +kernel)) rfl (Nat.le_of_ble_eq_true rfl) (fun p e s m below meth c Q AS ls hx hb hml hown hts hK hDD hA0 hE RET H locs hP hS hl => ?_)
  have hown : s.vm.findClass RX10 = some m.cls := hown
  have hl : lv_has ls 3 [(0, .ref (q 27)), (1, .int (iI x1)), (2, .int (iI x2))] := hl
  have hiX10 : ∀ w ∈ u_ws RX10 TX10 2, w ∈ ws_kc_X10_wayOf := fun w h => List.mem_cons_of_mem _ (wy_layX10 w h)
  refine lv_iload_n hx hb dX10_wayOf_0 rfl (lv_at hl 1 rfl) ?_
  refine lv_if_lt (tgt := 20) hx hb dX10_wayOf_1 (by decide) (fun c1 => ?_) (fun c1 => ?_)
  · have c1 : x1 < 0 := (i_lt0 hx1).mp c1
    refine lv_ldc (v := 1000000) hx hb hown (hts _ (List.mem_cons_of_mem _ (wk_in_9 _ (List.mem_of_getElem? (i := 46) rfl)))) dX10_wayOf_20 ?_
    refine tp_i (y := iI 1000000) (by decide +kernel) ?_
    exact RET 1000000 _ _ _ _ _ ⟨rfl, ⟨by decide, by decide⟩⟩ hP hS dX10_wayOf_22
  · have c1 : ¬ x1 < 0 := mt (i_lt0 hx1).mpr c1
    refine lv_iload_n hx hb dX10_wayOf_4 rfl (lv_at hl 1 rfl) ?_
    refine lv_bipush (v := iI 8) hx hb dX10_wayOf_5 (by decide +kernel) ?_
    refine lv_icmp_ge (tgt := 20) hx hb dX10_wayOf_7 (by decide) (fun c2 => ?_) (fun c2 => ?_)
    · have c2 : 8 ≤ x1 := (i_le ⟨by decide, by decide⟩ hx1).mp c2
      refine lv_ldc (v := 1000000) hx hb hown (hts _ (List.mem_cons_of_mem _ (wk_in_9 _ (List.mem_of_getElem? (i := 46) rfl)))) dX10_wayOf_20 ?_
      refine tp_i (y := iI 1000000) (by decide +kernel) ?_
      exact RET 1000000 _ _ _ _ _ ⟨rfl, ⟨by decide, by decide⟩⟩ hP hS dX10_wayOf_22
    · have c2 : ¬ 8 ≤ x1 := mt (i_le ⟨by decide, by decide⟩ hx1).mpr c2
      refine lv_iload_n hx hb dX10_wayOf_10 rfl (lv_at hl 2 rfl) ?_
      refine lv_if_lt (tgt := 20) hx hb dX10_wayOf_11 (by decide) (fun c3 => ?_) (fun c3 => ?_)
      · have c3 : x2 < 0 := (i_lt0 hx2).mp c3
        refine lv_ldc (v := 1000000) hx hb hown (hts _ (List.mem_cons_of_mem _ (wk_in_9 _ (List.mem_of_getElem? (i := 46) rfl)))) dX10_wayOf_20 ?_
        refine tp_i (y := iI 1000000) (by decide +kernel) ?_
        exact RET 1000000 _ _ _ _ _ ⟨rfl, ⟨by decide, by decide⟩⟩ hP hS dX10_wayOf_22
      · have c3 : ¬ x2 < 0 := mt (i_lt0 hx2).mpr c3
        refine lv_iload_n hx hb dX10_wayOf_14 rfl (lv_at hl 2 rfl) ?_
        refine lv_bipush (v := iI 8) hx hb dX10_wayOf_15 (by decide +kernel) ?_
        refine lv_icmp_lt (tgt := 23) hx hb dX10_wayOf_17 (by decide) (fun c4 => ?_) (fun c4 => ?_)
        · have c4 : x2 < 8 := (i_lt hx2 ⟨by decide, by decide⟩).mp c4
          refine lv_aload_n hx hb dX10_wayOf_23 rfl (lv_at hl 0 rfl) ?_
          refine va_get (D := (dC, dI)) (ci := 10) (v := .ref (q 28)) (C := RX10) (T := TX10) (N := 2) hx hb hts hiX10 hown hK hP 27 (wkWT) rfl 0 (by decide) (hts _ (List.mem_cons_of_mem _ (wk_in_9 _ (List.mem_of_getElem? (i := 53) rfl)))) (fun _ h9 => h9) rfl dX10_wayOf_24 ?_
          refine lv_iload_n hx hb dX10_wayOf_27 rfl (lv_at hl 1 rfl) ?_
          refine lv_bipush (v := iI 8) hx hb dX10_wayOf_28 (by decide +kernel) ?_
          refine x_mulv (v := 8 * x1) hx hb dX10_wayOf_30 (by omega) ?_
          refine lv_iload_n hx hb dX10_wayOf_31 rfl (lv_at hl 2 rfl) ?_
          refine x_addv (v := 8 * x1 + x2) hx hb dX10_wayOf_32 (by omega) ?_
          refine x_iald (Wf := WK cB cI cJ cZ cQ q) hx hb hK hP 28 1 (wkWTw) rfl (by omega) (by decide) dX10_wayOf_33 (fun z5 hz5 => ?_)
          have rz5 : (-2147483648 : Int) ≤ z5 ∧ z5 ≤ 2147483647 := by rw [hz5]; exact irWTw hI
          exact RET z5 _ _ _ _ _ ⟨rfl, rz5⟩ hP hS dX10_wayOf_34
        · have c4 : ¬ x2 < 8 := mt (i_lt hx2 ⟨by decide, by decide⟩).mpr c4
          refine lv_ldc (v := 1000000) hx hb hown (hts _ (List.mem_cons_of_mem _ (wk_in_9 _ (List.mem_of_getElem? (i := 46) rfl)))) dX10_wayOf_20 ?_
          refine tp_i (y := iI 1000000) (by decide +kernel) ?_
          exact RET 1000000 _ _ _ _ _ ⟨rfl, ⟨by decide, by decide⟩⟩ hP hS dX10_wayOf_22

def ws_kc_X10_measureWays : List Cond := .code yX10_measureWays cX10_measureWays 7 none :: WY
set_option maxHeartbeats 4000000 in
set_option maxRecDepth 100000 in
theorem kc_X10_measureWays (l : Launch) (dC : Nat → ClassId) (dI : Nat → Nat → Nat) (cB cI cJ cZ cQ : ClassId) (aL aS : Nat) (q : Nat → Nat) (A : St) (ta : Nat) (x2 : Int) (hI : IK A) (hta : isT ta) (hx2 : (-2147483648 : Int) ≤ x2 ∧ x2 ≤ 2147483647) : KMv l yX10_measureWays ws_kc_X10_measureWays ({ frames := 3, cells := 0, slots := 0, locals := 68 } : Room) aL aS (dC, dI) (tyA cB cI cJ cZ cQ) (WK cB cI cJ cZ cQ q) A [.ref (q 27), .ref (q ta), .int (iI x2)] (fun u => IK u ∧ fk [28] [] A u ∧ (True)) := by
  refine k_metv (cc := cX10_measureWays) (maxL := 7) WK_adr (plainFor_of_name (by decide +kernel)) rfl (Nat.le_of_ble_eq_true rfl) (fun p e s m below meth c Q AS ls hx hb hml hown hts hK hDD hA0 hE RET H locs hP hS hl => ?_)
  have hown : s.vm.findClass RX10 = some m.cls := hown
  have hl : lv_has ls 7 [(0, .ref (q 27)), (1, .ref (q ta)), (2, .int (iI x2))] := hl
  have hiX9 : ∀ w ∈ u_ws RX9 TX9 16, w ∈ ws_kc_X10_measureWays := fun w h => List.mem_cons_of_mem _ (wy_layX9 w h)
  have hiX10 : ∀ w ∈ u_ws RX10 TX10 2, w ∈ ws_kc_X10_measureWays := fun w h => List.mem_cons_of_mem _ (wy_layX10 w h)
  refine lv_iconst (v := iI 0) hx hb dX10_measureWays_0 (by decide +kernel) ?_
  refine lv_istore_n (lv' := [(3, .int (iI 0)), (0, .ref (q 27)), (1, .ref (q ta)), (2, .int (iI x2))]) hx hb dX10_measureWays_1 rfl hl (by decide) rfl (fun ls hl => ?_)
  have L2_4 : ∀ (n7 : Nat) (z1 : Int) (A3 : St) (H : Heap) (locs : List Loc) (ls : Array Slot), (0 ≤ z1 ∧ z1 ≤ 2147483647) → ((65 - z1).toNat = n7) → IK A3 → fk [28] [] A A3 → va_P (dC, dI) vwCl (WK cB cI cJ cZ cQ q A3) H → va_S AS s.heap H locs → lv_has ls 7 [(3, .int (iI z1)), (0, .ref (q 27)), (1, .ref (q ta)), (2, .int (iI x2))] → W p l e (headSpec ws_kc_X10_measureWays ({ frames := 3, cells := 0, slots := 0, locals := 68 } : Room)).room s m [.ref (q 27), .ref (q ta), .int (iI x2)].toArray below meth c H locs 0 0 Q (F0 m 2 ls []) := by
    intro n7
    induction n7 using Nat.strongRecOn with
    | ind n7 ih5 =>
      intro z1 A3 H locs ls f6 hn7 hI hj2 hP hS hl
      refine lv_iload_n hx hb dX10_measureWays_2 rfl (lv_at hl 0 rfl) ?_
      refine lv_bipush (v := iI 64) hx hb dX10_measureWays_3 (by decide +kernel) ?_
      refine lv_icmp_ge (tgt := 37) hx hb dX10_measureWays_5 (by decide) (fun c8 => ?_) (fun c8 => ?_)
      · have c8 : 64 ≤ z1 := (i_le ⟨by decide, by decide⟩ (rb f6 (by decide) (by decide))).mp c8
        refine lv_aload_n hx hb dX10_measureWays_37 rfl (lv_at hl 2 rfl) ?_
        refine k_calli (As := []) (rest := []) ⟨hx, hb, hml, hown, hts⟩ hE (kc_X9_shutMask l dC dI cB cI cJ cZ cQ aL aS q _ ta hI hta) (cwV 0 hts (goodVk (wk_in_9 _ (List.mem_of_getElem? (i := 57) rfl)) (wk_in_8 _ (List.mem_of_getElem? (i := 55) rfl)) (wk_in_8 _ (List.mem_of_getElem? (i := 56) rfl)) (wk_in_0 _ (List.mem_of_getElem? (i := 6) rfl)) (wk_in_8 _ (List.mem_of_getElem? (i := 50) rfl))) rfl rfl rfl (by decide +kernel) ⟨Nat.le_of_ble_eq_true rfl, Nat.le_of_ble_eq_true rfl⟩) hK hDD hA0 hP hS ta 9 (wkT hta) rfl rfl hl.1 (Nat.le_of_ble_eq_true rfl) dX10_measureWays_38 (fun z9 A10 H locs hw11 hP hS => ?_)
        obtain ⟨rfl, hw11⟩ := hw11
        refine lv_istore_n (lv' := [(3, .int (iI z9)), (0, .ref (q 27)), (1, .ref (q ta)), (2, .int (iI x2))]) hx hb dX10_measureWays_41 rfl hl (by decide) rfl (fun ls hl => ?_)
        refine lv_iconst (v := iI 0) hx hb dX10_measureWays_42 (by decide +kernel) ?_
        refine lv_istore (lv' := [(4, .int (iI 0)), (3, .int (iI z9)), (0, .ref (q 27)), (1, .ref (q ta)), (2, .int (iI x2))]) hx hb dX10_measureWays_43 hl (by decide) rfl (fun ls hl => ?_)
        have L45_15 : ∀ (n21 : Nat) (z12 : Int) (A14 : St) (H : Heap) (locs : List Loc) (ls : Array Slot), (0 ≤ z12 ∧ z12 ≤ 2147483647) → ((11 - z12).toNat = n21) → IK A14 → fk [28] [] A3 A14 → va_P (dC, dI) vwCl (WK cB cI cJ cZ cQ q A14) H → va_S AS s.heap H locs → lv_has ls 7 [(4, .int (iI z12)), (3, .int (iI z9)), (0, .ref (q 27)), (1, .ref (q ta)), (2, .int (iI x2))] → W p l e (headSpec ws_kc_X10_measureWays ({ frames := 3, cells := 0, slots := 0, locals := 68 } : Room)).room s m [.ref (q 27), .ref (q ta), .int (iI x2)].toArray below meth c H locs 0 0 Q (F0 m 45 ls []) := by
          intro n21
          induction n21 using Nat.strongRecOn with
          | ind n21 ih16 =>
            intro z12 A14 H locs ls f17 hn21 hI hj13 hP hS hl
            refine lv_iload hx hb dX10_measureWays_45 (lv_at hl 0 rfl) ?_
            refine lv_aload_n hx hb dX10_measureWays_47 rfl (lv_at hl 3 rfl) ?_
            refine va_get (D := (dC, dI)) (ci := 9) (v := .ref (q (ta + 1))) (C := RX9) (T := TX9) (N := 16) hx hb hts hiX9 hown hK hP ta (wkT hta) rfl 0 (by decide) (hts _ (List.mem_cons_of_mem _ (wk_in_9 _ (List.mem_of_getElem? (i := 45) rfl)))) (fun _ h9 => h9) rfl dX10_measureWays_48 ?_
            refine lv_iconst (v := iI 1) hx hb dX10_measureWays_51 (by decide +kernel) ?_
            have a23 : ∀ k, A3 (ta + 1) k = A (ta + 1) k := fun k => hj2 (ta + 1) k (isT.b2 (o := fun b => List.contains [28] (b + 1)) hta rfl rfl) (isT.b2 (o := fun b => fin2 [] (b + 1) k) hta rfl rfl)
            have a22 : ∀ k, A14 (ta + 1) k = A (ta + 1) k := fun k => (hj13 (ta + 1) k (isT.b2 (o := fun b => List.contains [28] (b + 1)) hta rfl rfl) (isT.b2 (o := fun b => fin2 [] (b + 1) k) hta rfl rfl)).trans (a23 k)
            refine x_iald (Wf := WK cB cI cJ cZ cQ q) hx hb hK hP (ta + 1) 1 (wkTc hta) rfl (by decide) (by decide) dX10_measureWays_52 (fun z24 hz24 => ?_)
            have rz24 : (0 : Int) ≤ z24 ∧ z24 ≤ 10 := by rw [hz24]; exact irTc1 hta hI
            have hz24 : z24 = A (ta + 1) (1 : Int).toNat := hz24.trans (a22 _)
            refine lv_icmp_ge (tgt := 130) hx hb dX10_measureWays_53 (by decide) (fun c25 => ?_) (fun c25 => ?_)
            · have c25 : z24 ≤ z12 := (i_le (rb rz24 (by decide) (by decide)) (rb f17 (by decide) (by decide))).mp c25
              refine lv_iconst (v := iI 0) hx hb dX10_measureWays_130 (by decide +kernel) ?_
              refine lv_istore (lv' := [(4, .int (iI 0)), (3, .int (iI z9)), (0, .ref (q 27)), (1, .ref (q ta)), (2, .int (iI x2))]) hx hb dX10_measureWays_131 hl (by decide) rfl (fun ls hl => ?_)
              have L133_29 : ∀ (n32 : Nat) (z26 : Int) (A28 : St) (H : Heap) (locs : List Loc) (ls : Array Slot), (0 ≤ z26 ∧ z26 ≤ 2147483647) → ((2147483648 - z26).toNat = n32) → IK A28 → fk [28] [] A14 A28 → va_P (dC, dI) vwCl (WK cB cI cJ cZ cQ q A28) H → va_S AS s.heap H locs → lv_has ls 7 [(4, .int (iI z26)), (3, .int (iI z9)), (0, .ref (q 27)), (1, .ref (q ta)), (2, .int (iI x2))] → W p l e (headSpec ws_kc_X10_measureWays ({ frames := 3, cells := 0, slots := 0, locals := 68 } : Room)).room s m [.ref (q 27), .ref (q ta), .int (iI x2)].toArray below meth c H locs 0 0 Q (F0 m 133 ls []) := by
                intro n32
                induction n32 using Nat.strongRecOn with
                | ind n32 ih30 =>
                  intro z26 A28 H locs ls f31 hn32 hI hj27 hP hS hl
                  refine lv_iload hx hb dX10_measureWays_133 (lv_at hl 0 rfl) ?_
                  refine lv_iload_n hx hb dX10_measureWays_135 rfl (lv_at hl 4 rfl) ?_
                  refine lv_icmp_ge (tgt := 200) hx hb dX10_measureWays_136 (by decide) (fun c33 => ?_) (fun c33 => ?_)
                  · have c33 : x2 ≤ z26 := (i_le hx2 (rb f31 (by decide) (by decide))).mp c33
                    exact RET _ _ _ _ _ ⟨hI, fk.trans (fk.trans (fk.trans (fk.rf) hj2 rfl rfl) hj13 rfl rfl) hj27 rfl rfl, trivial⟩ hP hS dX10_measureWays_200
                  · have c33 : ¬ x2 ≤ z26 := mt (i_le hx2 (rb f31 (by decide) (by decide))).mpr c33
                    refine lv_iconst (v := iI 0) hx hb dX10_measureWays_139 (by decide +kernel) ?_
                    refine lv_istore (lv' := [(5, .int (iI 0)), (4, .int (iI z26)), (3, .int (iI z9)), (0, .ref (q 27)), (1, .ref (q ta)), (2, .int (iI x2))]) hx hb dX10_measureWays_140 hl (by decide) rfl (fun ls hl => ?_)
                    have L142_37 : ∀ (n40 : Nat) (z34 : Int) (A36 : St) (H : Heap) (locs : List Loc) (ls : Array Slot), (0 ≤ z34 ∧ z34 ≤ 2147483647) → ((2147483648 - z34).toNat = n40) → IK A36 → fk [28] [] A28 A36 → va_P (dC, dI) vwCl (WK cB cI cJ cZ cQ q A36) H → va_S AS s.heap H locs → lv_has ls 7 [(5, .int (iI z34)), (4, .int (iI z26)), (3, .int (iI z9)), (0, .ref (q 27)), (1, .ref (q ta)), (2, .int (iI x2))] → W p l e (headSpec ws_kc_X10_measureWays ({ frames := 3, cells := 0, slots := 0, locals := 68 } : Room)).room s m [.ref (q 27), .ref (q ta), .int (iI x2)].toArray below meth c H locs 0 0 Q (F0 m 142 ls []) := by
                      intro n40
                      induction n40 using Nat.strongRecOn with
                      | ind n40 ih38 =>
                        intro z34 A36 H locs ls f39 hn40 hI hj35 hP hS hl
                        refine lv_iload hx hb dX10_measureWays_142 (lv_at hl 0 rfl) ?_
                        refine lv_iload_n hx hb dX10_measureWays_144 rfl (lv_at hl 5 rfl) ?_
                        refine lv_icmp_ge (tgt := 194) hx hb dX10_measureWays_145 (by decide) (fun c41 => ?_) (fun c41 => ?_)
                        · have c41 : x2 ≤ z34 := (i_le hx2 (rb f39 (by decide) (by decide))).mp c41
                          refine lv_iinc (v := iI (z26 + 1)) (lv' := [(4, .int (iI (z26 + 1))), (5, .int (iI z34)), (3, .int (iI z9)), (0, .ref (q 27)), (1, .ref (q ta)), (2, .int (iI x2))]) hx hb dX10_measureWays_194 hl (k := 1) rfl (i_inc (by omega)) (by decide) rfl (fun ls hl => ?_)
                          refine lv_goto (tgt := 133) hx hb dX10_measureWays_197 (by decide) ?_
                          exact ih30 _ (by omega) (z26 + 1) _ _ _ _ (by omega) rfl hI (fk.trans (fk.trans (fk.rf) hj27 rfl rfl) hj35 rfl rfl) hP hS (lv_sub hl [0, 2, 3, 4, 5] rfl)
                        · have c41 : ¬ x2 ≤ z34 := mt (i_le hx2 (rb f39 (by decide) (by decide))).mpr c41
                          refine lv_iconst (v := iI 0) hx hb dX10_measureWays_148 (by decide +kernel) ?_
                          refine lv_istore (lv' := [(6, .int (iI 0)), (5, .int (iI z34)), (4, .int (iI z26)), (3, .int (iI z9)), (0, .ref (q 27)), (1, .ref (q ta)), (2, .int (iI x2))]) hx hb dX10_measureWays_149 hl (by decide) rfl (fun ls hl => ?_)
                          have L151_45 : ∀ (n48 : Nat) (z42 : Int) (A44 : St) (H : Heap) (locs : List Loc) (ls : Array Slot), (0 ≤ z42 ∧ z42 ≤ 2147483647) → ((2147483648 - z42).toNat = n48) → IK A44 → fk [28] [] A36 A44 → va_P (dC, dI) vwCl (WK cB cI cJ cZ cQ q A44) H → va_S AS s.heap H locs → lv_has ls 7 [(6, .int (iI z42)), (5, .int (iI z34)), (4, .int (iI z26)), (3, .int (iI z9)), (0, .ref (q 27)), (1, .ref (q ta)), (2, .int (iI x2))] → W p l e (headSpec ws_kc_X10_measureWays ({ frames := 3, cells := 0, slots := 0, locals := 68 } : Room)).room s m [.ref (q 27), .ref (q ta), .int (iI x2)].toArray below meth c H locs 0 0 Q (F0 m 151 ls []) := by
                            intro n48
                            induction n48 using Nat.strongRecOn with
                            | ind n48 ih46 =>
                              intro z42 A44 H locs ls f47 hn48 hI hj43 hP hS hl
                              refine lv_iload hx hb dX10_measureWays_151 (lv_at hl 0 rfl) ?_
                              refine lv_iload_n hx hb dX10_measureWays_153 rfl (lv_at hl 6 rfl) ?_
                              refine lv_icmp_ge (tgt := 188) hx hb dX10_measureWays_154 (by decide) (fun c49 => ?_) (fun c49 => ?_)
                              · have c49 : x2 ≤ z42 := (i_le hx2 (rb f47 (by decide) (by decide))).mp c49
                                refine lv_iinc (v := iI (z34 + 1)) (lv' := [(5, .int (iI (z34 + 1))), (6, .int (iI z42)), (4, .int (iI z26)), (3, .int (iI z9)), (0, .ref (q 27)), (1, .ref (q ta)), (2, .int (iI x2))]) hx hb dX10_measureWays_188 hl (k := 1) rfl (i_inc (by omega)) (by decide) rfl (fun ls hl => ?_)
                                refine lv_goto (tgt := 142) hx hb dX10_measureWays_191 (by decide) ?_
                                exact ih38 _ (by omega) (z34 + 1) _ _ _ _ (by omega) rfl hI (fk.trans (fk.trans (fk.rf) hj35 rfl rfl) hj43 rfl rfl) hP hS (lv_sub hl [0, 2, 3, 4, 5, 6] rfl)
                              · have c49 : ¬ x2 ≤ z42 := mt (i_le hx2 (rb f47 (by decide) (by decide))).mpr c49
                                refine lv_aload_n hx hb dX10_measureWays_157 rfl (lv_at hl 4 rfl) ?_
                                refine lv_iload hx hb dX10_measureWays_158 (lv_at hl 1 rfl) ?_
                                refine lv_iload hx hb dX10_measureWays_160 (lv_at hl 0 rfl) ?_
                                refine lv_aload_n hx hb dX10_measureWays_162 rfl (lv_at hl 4 rfl) ?_
                                refine lv_iload hx hb dX10_measureWays_163 (lv_at hl 1 rfl) ?_
                                refine lv_iload hx hb dX10_measureWays_165 (lv_at hl 2 rfl) ?_
                                refine k_calli (As := [.int (iI z34), .int (iI z26)]) (rest := [.int (iI z42), .int (iI z34), .ref (q 27)]) ⟨hx, hb, hml, hown, hts⟩ hE (kc_X10_wayOf l dC dI cB cI cJ cZ cQ aL aS q _ z34 z26 hI (rb f39 (by decide) (by decide)) (rb f31 (by decide) (by decide))) (cwV 2 hts (goodVk (wk_in_10 _ (List.mem_of_getElem? (i := 4) rfl)) (wk_in_10 _ (List.mem_of_getElem? (i := 5) rfl)) (wk_in_10 _ (List.mem_of_getElem? (i := 6) rfl)) (wk_in_9 _ (List.mem_of_getElem? (i := 51) rfl)) (wk_in_10 _ (List.mem_of_getElem? (i := 7) rfl))) rfl rfl rfl (by decide +kernel) ⟨Nat.le_of_ble_eq_true rfl, Nat.le_of_ble_eq_true rfl⟩) hK hDD hA0 hP hS 27 10 (wkWT) rfl rfl hl.1 (Nat.le_of_ble_eq_true rfl) dX10_measureWays_167 (fun z50 A51 H locs hw52 hP hS => ?_)
                                obtain ⟨rfl, hw52⟩ := hw52
                                refine lv_aload_n hx hb dX10_measureWays_170 rfl (lv_at hl 4 rfl) ?_
                                refine lv_iload hx hb dX10_measureWays_171 (lv_at hl 2 rfl) ?_
                                refine lv_iload hx hb dX10_measureWays_173 (lv_at hl 0 rfl) ?_
                                refine k_calli (As := [.int (iI z26), .int (iI z42)]) (rest := [.int (iI z50), .int (iI z42), .int (iI z34), .ref (q 27)]) ⟨hx, hb, hml, hown, hts⟩ hE (kc_X10_wayOf l dC dI cB cI cJ cZ cQ aL aS q _ z26 z42 hI (rb f31 (by decide) (by decide)) (rb f47 (by decide) (by decide))) (cwV 2 hts (goodVk (wk_in_10 _ (List.mem_of_getElem? (i := 4) rfl)) (wk_in_10 _ (List.mem_of_getElem? (i := 5) rfl)) (wk_in_10 _ (List.mem_of_getElem? (i := 6) rfl)) (wk_in_9 _ (List.mem_of_getElem? (i := 51) rfl)) (wk_in_10 _ (List.mem_of_getElem? (i := 7) rfl))) rfl rfl rfl (by decide +kernel) ⟨Nat.le_of_ble_eq_true rfl, Nat.le_of_ble_eq_true rfl⟩) hK hDD hA0 hP hS 27 10 (wkWT) rfl rfl hl.1 (Nat.le_of_ble_eq_true rfl) dX10_measureWays_175 (fun z53 A54 H locs hw55 hP hS => ?_)
                                obtain ⟨rfl, hw55⟩ := hw55
                                refine x_addv (v := z50 + z53) hx hb dX10_measureWays_178 (by omega) ?_
                                refine x_abs (fun z56 hz56 => ?_)
                                refine k_callv (As := [.int (iI z34), .int (iI z42), .int (iI z56)]) (rest := []) ⟨hx, hb, hml, hown, hts⟩ hE (kc_X10_shorten l dC dI cB cI cJ cZ cQ aL aS q _ z34 z42 z56 hI (rb f39 (by decide) (by decide)) (rb f47 (by decide) (by decide)) hz56) (cwV 3 hts (goodVk (wk_in_9 _ (List.mem_of_getElem? (i := 59) rfl)) (wk_in_10 _ (List.mem_of_getElem? (i := 0) rfl)) (wk_in_10 _ (List.mem_of_getElem? (i := 1) rfl)) (wk_in_9 _ (List.mem_of_getElem? (i := 51) rfl)) (wk_in_10 _ (List.mem_of_getElem? (i := 2) rfl))) rfl rfl rfl (by decide +kernel) ⟨Nat.le_of_ble_eq_true rfl, Nat.le_of_ble_eq_true rfl⟩) hK hDD hA0 hP hS 27 10 (wkWT) rfl rfl hl.1 (Nat.le_of_ble_eq_true rfl) dX10_measureWays_179 (fun A57 H locs hw58 hP hS => ?_)
                                obtain ⟨hI, hf59, hw58⟩ := hw58
                                clear hw58
                                refine lv_iinc (v := iI (z42 + 1)) (lv' := [(6, .int (iI (z42 + 1))), (5, .int (iI z34)), (4, .int (iI z26)), (3, .int (iI z9)), (0, .ref (q 27)), (1, .ref (q ta)), (2, .int (iI x2))]) hx hb dX10_measureWays_182 hl (k := 0) rfl (i_inc (by omega)) (by decide) rfl (fun ls hl => ?_)
                                refine lv_goto (tgt := 151) hx hb dX10_measureWays_185 (by decide) ?_
                                exact ih46 _ (by omega) (z42 + 1) _ _ _ _ (by omega) rfl hI (fk.trans (fk.trans (fk.rf) hj43 rfl rfl) hf59 rfl rfl) hP hS (lv_sub hl [0, 1, 2, 3, 4, 5, 6] rfl)
                          exact L151_45 _ 0 _ _ _ _ (by omega) rfl hI (fk.rf) hP hS (lv_sub hl [0, 1, 2, 3, 4, 5, 6] rfl)
                    exact L142_37 _ 0 _ _ _ _ (by omega) rfl hI (fk.rf) hP hS (lv_sub hl [0, 1, 2, 3, 4, 5] rfl)
              exact L133_29 _ 0 _ _ _ _ (by omega) rfl hI (fk.rf) hP hS (lv_sub hl [0, 1, 2, 3, 4] rfl)
            · have c25 : ¬ z24 ≤ z12 := mt (i_le (rb rz24 (by decide) (by decide)) (rb f17 (by decide) (by decide))).mpr c25
              refine lv_aload_n hx hb dX10_measureWays_56 rfl (lv_at hl 3 rfl) ?_
              refine lv_iload hx hb dX10_measureWays_57 (lv_at hl 0 rfl) ?_
              refine k_calli (As := [.int (iI z12)]) (rest := []) ⟨hx, hb, hml, hown, hts⟩ hE (kc_X9_isBox l dC dI cB cI cJ cZ cQ aL aS q _ ta z12 hI hta (rb f17 (by decide) (by decide))) (cwV 1 hts (goodVk (wk_in_9 _ (List.mem_of_getElem? (i := 58) rfl)) (wk_in_1 _ (List.mem_of_getElem? (i := 6) rfl)) (wk_in_1 _ (List.mem_of_getElem? (i := 7) rfl)) (wk_in_0 _ (List.mem_of_getElem? (i := 6) rfl)) (wk_in_1 _ (List.mem_of_getElem? (i := 8) rfl))) rfl rfl rfl (by decide +kernel) ⟨Nat.le_of_ble_eq_true rfl, Nat.le_of_ble_eq_true rfl⟩) hK hDD hA0 hP hS ta 9 (wkT hta) rfl rfl hl.1 (Nat.le_of_ble_eq_true rfl) dX10_measureWays_59 (fun z60 A61 H locs hw62 hP hS => ?_)
              obtain ⟨rfl, hw62⟩ := hw62
              have rz60 : 0 ≤ z60 ∧ z60 ≤ 1 := hw62.1
              have hw62 := hw62.2
              have J124_64 : ∀ (A90 : St) (H : Heap) (locs : List Loc) (ls : Array Slot), IK A90 → fk [28] [] A14 A90 → va_P (dC, dI) vwCl (WK cB cI cJ cZ cQ q A90) H → va_S AS s.heap H locs → lv_has ls 7 [(4, .int (iI z12)), (3, .int (iI z9)), (0, .ref (q 27)), (1, .ref (q ta)), (2, .int (iI x2))] → W p l e (headSpec ws_kc_X10_measureWays ({ frames := 3, cells := 0, slots := 0, locals := 68 } : Room)).room s m [.ref (q 27), .ref (q ta), .int (iI x2)].toArray below meth c H locs 0 0 Q (F0 m 124 ls []) := by
                intro A90 H locs ls hI hj89 hP hS hl
                clear hw62
                refine lv_iinc (v := iI (z12 + 1)) (lv' := [(4, .int (iI (z12 + 1))), (3, .int (iI z9)), (0, .ref (q 27)), (1, .ref (q ta)), (2, .int (iI x2))]) hx hb dX10_measureWays_124 hl (k := 0) rfl (i_inc (by omega)) (by decide) rfl (fun ls hl => ?_)
                refine lv_goto (tgt := 45) hx hb dX10_measureWays_127 (by decide) ?_
                exact ih16 _ (by omega) (z12 + 1) _ _ _ _ (by omega) rfl hI (fk.trans (fk.trans (fk.rf) hj13 rfl rfl) hj89 rfl rfl) hP hS (lv_sub hl [0, 1, 2, 3, 4] rfl)
              refine lv_if_ne (tgt := 124) hx hb dX10_measureWays_62 (by decide) (fun c63 => ?_) (fun c63 => ?_)
              · have c63 : ¬ z60 = 0 := mt (i_eq0 (rb rz60 (by decide) (by decide))).mpr c63
                have hw62b := hw62 (by omega)
                clear hw62
                exact J124_64 _ _ _ _ hI (fk.rf) hP hS (lv_sub hl [0, 1, 2, 3, 4] rfl)
              · have c63 : z60 = 0 := (i_eq0 (rb rz60 (by decide) (by decide))).mp c63
                clear hw62
                refine lv_iload_n hx hb dX10_measureWays_65 rfl (lv_at hl 1 rfl) ?_
                refine lv_iload hx hb dX10_measureWays_66 (lv_at hl 0 rfl) ?_
                refine lv_ishr hx hb dX10_measureWays_68 ?_
                refine x_abs (fun z65 hz65 => ?_)
                refine lv_iconst (v := iI 1) hx hb dX10_measureWays_69 (by decide +kernel) ?_
                refine lv_iand hx hb dX10_measureWays_70 ?_
                refine x_and (b := 1) (by omega) (fun z66 hz66 => ?_)
                refine lv_if_ne (tgt := 124) hx hb dX10_measureWays_71 (by decide) (fun c67 => ?_) (fun c67 => ?_)
                · have c67 : ¬ z66 = 0 := mt (i_eq0 (by omega)).mpr c67
                  exact J124_64 _ _ _ _ hI (fk.rf) hP hS (lv_sub hl [0, 1, 2, 3, 4] rfl)
                · have c67 : z66 = 0 := (i_eq0 (by omega)).mp c67
                  refine lv_aload_n hx hb dX10_measureWays_74 rfl (lv_at hl 2 rfl) ?_
                  refine lv_aload_n hx hb dX10_measureWays_75 rfl (lv_at hl 3 rfl) ?_
                  refine va_get (D := (dC, dI)) (ci := 9) (v := .ref (q (ta + 8))) (C := RX9) (T := TX9) (N := 16) hx hb hts hiX9 hown hK hP ta (wkT hta) rfl 2 (by decide) (hts _ (List.mem_cons_of_mem _ (wk_in_9 _ (List.mem_of_getElem? (i := 54) rfl)))) (fun _ h9 => h9) rfl dX10_measureWays_76 ?_
                  refine lv_iload hx hb dX10_measureWays_79 (lv_at hl 0 rfl) ?_
                  have a69 : ∀ k, A3 (ta + 8) k = A (ta + 8) k := fun k => hj2 (ta + 8) k (isT.b2 (o := fun b => List.contains [28] (b + 8)) hta rfl rfl) (isT.b2 (o := fun b => fin2 [] (b + 8) k) hta rfl rfl)
                  have a68 : ∀ k, A14 (ta + 8) k = A (ta + 8) k := fun k => (hj13 (ta + 8) k (isT.b2 (o := fun b => List.contains [28] (b + 8)) hta rfl rfl) (isT.b2 (o := fun b => fin2 [] (b + 8) k) hta rfl rfl)).trans (a69 k)
                  refine x_iald (Wf := WK cB cI cJ cZ cQ q) hx hb hK hP (ta + 8) 1 (wkTf hta) rfl (by omega) (by decide) dX10_measureWays_81 (fun z70 hz70 => ?_)
                  have rz70 : (-2147483648 : Int) ≤ z70 ∧ z70 ≤ 2147483647 := by rw [hz70]; exact irTf hta hI
                  have hz70 : z70 = A (ta + 8) (z12).toNat := hz70.trans (a68 _)
                  refine lv_aload_n hx hb dX10_measureWays_82 rfl (lv_at hl 3 rfl) ?_
                  refine va_get (D := (dC, dI)) (ci := 9) (v := .ref (q (ta + 9))) (C := RX9) (T := TX9) (N := 16) hx hb hts hiX9 hown hK hP ta (wkT hta) rfl 3 (by decide) (hts _ (List.mem_cons_of_mem _ (wk_in_9 _ (List.mem_of_getElem? (i := 55) rfl)))) (fun _ h9 => h9) rfl dX10_measureWays_83 ?_
                  refine lv_iload hx hb dX10_measureWays_86 (lv_at hl 0 rfl) ?_
                  have a72 : ∀ k, A3 (ta + 9) k = A (ta + 9) k := fun k => hj2 (ta + 9) k (isT.b2 (o := fun b => List.contains [28] (b + 9)) hta rfl rfl) (isT.b2 (o := fun b => fin2 [] (b + 9) k) hta rfl rfl)
                  have a71 : ∀ k, A14 (ta + 9) k = A (ta + 9) k := fun k => (hj13 (ta + 9) k (isT.b2 (o := fun b => List.contains [28] (b + 9)) hta rfl rfl) (isT.b2 (o := fun b => fin2 [] (b + 9) k) hta rfl rfl)).trans (a72 k)
                  refine x_iald (Wf := WK cB cI cJ cZ cQ q) hx hb hK hP (ta + 9) 1 (wkTs hta) rfl (by omega) (by decide) dX10_measureWays_88 (fun z73 hz73 => ?_)
                  have rz73 : (-2147483648 : Int) ≤ z73 ∧ z73 ≤ 2147483647 := by rw [hz73]; exact irTs hta hI
                  have hz73 : z73 = A (ta + 9) (z12).toNat := hz73.trans (a71 _)
                  refine lv_aload_n hx hb dX10_measureWays_89 rfl (lv_at hl 3 rfl) ?_
                  refine va_get (D := (dC, dI)) (ci := 9) (v := .ref (q (ta + 10))) (C := RX9) (T := TX9) (N := 16) hx hb hts hiX9 hown hK hP ta (wkT hta) rfl 4 (by decide) (hts _ (List.mem_cons_of_mem _ (wk_in_9 _ (List.mem_of_getElem? (i := 56) rfl)))) (fun _ h9 => h9) rfl dX10_measureWays_90 ?_
                  refine lv_iload hx hb dX10_measureWays_93 (lv_at hl 0 rfl) ?_
                  have a75 : ∀ k, A3 (ta + 10) k = A (ta + 10) k := fun k => hj2 (ta + 10) k (isT.b2 (o := fun b => List.contains [28] (b + 10)) hta rfl rfl) (isT.b2 (o := fun b => fin2 [] (b + 10) k) hta rfl rfl)
                  have a74 : ∀ k, A14 (ta + 10) k = A (ta + 10) k := fun k => (hj13 (ta + 10) k (isT.b2 (o := fun b => List.contains [28] (b + 10)) hta rfl rfl) (isT.b2 (o := fun b => fin2 [] (b + 10) k) hta rfl rfl)).trans (a75 k)
                  refine x_iald (Wf := WK cB cI cJ cZ cQ q) hx hb hK hP (ta + 10) 1 (wkTm hta) rfl (by omega) (by decide) dX10_measureWays_95 (fun z76 hz76 => ?_)
                  have rz76 : (-2147483648 : Int) ≤ z76 ∧ z76 ≤ 2147483647 := by rw [hz76]; exact irTm hta hI
                  have hz76 : z76 = A (ta + 10) (z12).toNat := hz76.trans (a74 _)
                  refine k_callv (As := [.int (iI z70), .int (iI z73), .int (iI z76)]) (rest := []) ⟨hx, hb, hml, hown, hts⟩ hE (kc_X10_shorten l dC dI cB cI cJ cZ cQ aL aS q _ z70 z73 z76 hI rz70 rz73 rz76) (cwV 3 hts (goodVk (wk_in_9 _ (List.mem_of_getElem? (i := 59) rfl)) (wk_in_10 _ (List.mem_of_getElem? (i := 0) rfl)) (wk_in_10 _ (List.mem_of_getElem? (i := 1) rfl)) (wk_in_9 _ (List.mem_of_getElem? (i := 51) rfl)) (wk_in_10 _ (List.mem_of_getElem? (i := 2) rfl))) rfl rfl rfl (by decide +kernel) ⟨Nat.le_of_ble_eq_true rfl, Nat.le_of_ble_eq_true rfl⟩) hK hDD hA0 hP hS 27 10 (wkWT) rfl rfl hl.1 (Nat.le_of_ble_eq_true rfl) dX10_measureWays_96 (fun A77 H locs hw78 hP hS => ?_)
                  obtain ⟨hI, hf79, hw78⟩ := hw78
                  clear hw78
                  refine lv_aload_n hx hb dX10_measureWays_99 rfl (lv_at hl 2 rfl) ?_
                  refine lv_aload_n hx hb dX10_measureWays_100 rfl (lv_at hl 3 rfl) ?_
                  refine va_get (D := (dC, dI)) (ci := 9) (v := .ref (q (ta + 9))) (C := RX9) (T := TX9) (N := 16) hx hb hts hiX9 hown hK hP ta (wkT hta) rfl 3 (by decide) (hts _ (List.mem_cons_of_mem _ (wk_in_9 _ (List.mem_of_getElem? (i := 55) rfl)))) (fun _ h9 => h9) rfl dX10_measureWays_101 ?_
                  refine lv_iload hx hb dX10_measureWays_104 (lv_at hl 0 rfl) ?_
                  have a80 : ∀ k, A77 (ta + 9) k = A (ta + 9) k := fun k => (hf79 (ta + 9) k (isT.b2 (o := fun b => List.contains [28] (b + 9)) hta rfl rfl) (isT.b2 (o := fun b => fin2 [] (b + 9) k) hta rfl rfl)).trans (a71 k)
                  refine x_iald (Wf := WK cB cI cJ cZ cQ q) hx hb hK hP (ta + 9) 1 (wkTs hta) rfl (by omega) (by decide) dX10_measureWays_106 (fun z81 hz81 => ?_)
                  have rz81 : (-2147483648 : Int) ≤ z81 ∧ z81 ≤ 2147483647 := by rw [hz81]; exact irTs hta hI
                  have hz81 : z81 = A (ta + 9) (z12).toNat := hz81.trans (a80 _)
                  have ez81 : z81 = z73 := hz81.trans hz73.symm
                  refine tp_i (y := iI z73) (congrArg iI ez81) ?_
                  refine lv_aload_n hx hb dX10_measureWays_107 rfl (lv_at hl 3 rfl) ?_
                  refine va_get (D := (dC, dI)) (ci := 9) (v := .ref (q (ta + 8))) (C := RX9) (T := TX9) (N := 16) hx hb hts hiX9 hown hK hP ta (wkT hta) rfl 2 (by decide) (hts _ (List.mem_cons_of_mem _ (wk_in_9 _ (List.mem_of_getElem? (i := 54) rfl)))) (fun _ h9 => h9) rfl dX10_measureWays_108 ?_
                  refine lv_iload hx hb dX10_measureWays_111 (lv_at hl 0 rfl) ?_
                  have a82 : ∀ k, A77 (ta + 8) k = A (ta + 8) k := fun k => (hf79 (ta + 8) k (isT.b2 (o := fun b => List.contains [28] (b + 8)) hta rfl rfl) (isT.b2 (o := fun b => fin2 [] (b + 8) k) hta rfl rfl)).trans (a68 k)
                  refine x_iald (Wf := WK cB cI cJ cZ cQ q) hx hb hK hP (ta + 8) 1 (wkTf hta) rfl (by omega) (by decide) dX10_measureWays_113 (fun z83 hz83 => ?_)
                  have rz83 : (-2147483648 : Int) ≤ z83 ∧ z83 ≤ 2147483647 := by rw [hz83]; exact irTf hta hI
                  have hz83 : z83 = A (ta + 8) (z12).toNat := hz83.trans (a82 _)
                  have ez83 : z83 = z70 := hz83.trans hz70.symm
                  refine tp_i (y := iI z70) (congrArg iI ez83) ?_
                  refine lv_aload_n hx hb dX10_measureWays_114 rfl (lv_at hl 3 rfl) ?_
                  refine va_get (D := (dC, dI)) (ci := 9) (v := .ref (q (ta + 10))) (C := RX9) (T := TX9) (N := 16) hx hb hts hiX9 hown hK hP ta (wkT hta) rfl 4 (by decide) (hts _ (List.mem_cons_of_mem _ (wk_in_9 _ (List.mem_of_getElem? (i := 56) rfl)))) (fun _ h9 => h9) rfl dX10_measureWays_115 ?_
                  refine lv_iload hx hb dX10_measureWays_118 (lv_at hl 0 rfl) ?_
                  have a84 : ∀ k, A77 (ta + 10) k = A (ta + 10) k := fun k => (hf79 (ta + 10) k (isT.b2 (o := fun b => List.contains [28] (b + 10)) hta rfl rfl) (isT.b2 (o := fun b => fin2 [] (b + 10) k) hta rfl rfl)).trans (a74 k)
                  refine x_iald (Wf := WK cB cI cJ cZ cQ q) hx hb hK hP (ta + 10) 1 (wkTm hta) rfl (by omega) (by decide) dX10_measureWays_120 (fun z85 hz85 => ?_)
                  have rz85 : (-2147483648 : Int) ≤ z85 ∧ z85 ≤ 2147483647 := by rw [hz85]; exact irTm hta hI
                  have hz85 : z85 = A (ta + 10) (z12).toNat := hz85.trans (a84 _)
                  have ez85 : z85 = z76 := hz85.trans hz76.symm
                  refine tp_i (y := iI z76) (congrArg iI ez85) ?_
                  refine k_callv (As := [.int (iI z73), .int (iI z70), .int (iI z76)]) (rest := []) ⟨hx, hb, hml, hown, hts⟩ hE (kc_X10_shorten l dC dI cB cI cJ cZ cQ aL aS q _ z73 z70 z76 hI rz73 rz70 rz76) (cwV 3 hts (goodVk (wk_in_9 _ (List.mem_of_getElem? (i := 59) rfl)) (wk_in_10 _ (List.mem_of_getElem? (i := 0) rfl)) (wk_in_10 _ (List.mem_of_getElem? (i := 1) rfl)) (wk_in_9 _ (List.mem_of_getElem? (i := 51) rfl)) (wk_in_10 _ (List.mem_of_getElem? (i := 2) rfl))) rfl rfl rfl (by decide +kernel) ⟨Nat.le_of_ble_eq_true rfl, Nat.le_of_ble_eq_true rfl⟩) hK hDD hA0 hP hS 27 10 (wkWT) rfl rfl hl.1 (Nat.le_of_ble_eq_true rfl) dX10_measureWays_121 (fun A86 H locs hw87 hP hS => ?_)
                  obtain ⟨hI, hf88, hw87⟩ := hw87
                  clear hw87
                  exact J124_64 _ _ _ _ hI (fk.trans (fk.trans (fk.rf) hf79 rfl rfl) hf88 rfl rfl) hP hS (lv_sub hl [0, 1, 2, 3, 4] rfl)
        exact L45_15 _ 0 _ _ _ _ (by omega) rfl hI (fk.rf) hP hS (lv_sub hl [0, 1, 2, 3, 4] rfl)
      · have c8 : ¬ 64 ≤ z1 := mt (i_le ⟨by decide, by decide⟩ (rb f6 (by decide) (by decide))).mpr c8
        refine lv_aload_n hx hb dX10_measureWays_8 rfl (lv_at hl 1 rfl) ?_
        refine va_get (D := (dC, dI)) (ci := 10) (v := .ref (q 28)) (C := RX10) (T := TX10) (N := 2) hx hb hts hiX10 hown hK hP 27 (wkWT) rfl 0 (by decide) (hts _ (List.mem_cons_of_mem _ (wk_in_9 _ (List.mem_of_getElem? (i := 53) rfl)))) (fun _ h9 => h9) rfl dX10_measureWays_9 ?_
        refine lv_iload_n hx hb dX10_measureWays_12 rfl (lv_at hl 0 rfl) ?_
        refine lv_iload_n hx hb dX10_measureWays_13 rfl (lv_at hl 0 rfl) ?_
        refine lv_bipush (v := iI 8) hx hb dX10_measureWays_14 (by decide +kernel) ?_
        refine x_div hx hb dX10_measureWays_16 (by omega) (by omega) (fun z91 hz91 hz91b => ?_)
        refine lv_iload_n hx hb dX10_measureWays_17 rfl (lv_at hl 0 rfl) ?_
        refine lv_bipush (v := iI 8) hx hb dX10_measureWays_18 (by decide +kernel) ?_
        refine x_rem hx hb dX10_measureWays_20 (by omega) (by omega) (fun z92 hz92 hz92b => ?_)
        clear hz92
        have J30_94 : ∀ (z95 : Int) (H : Heap) (locs : List Loc) (ls : Array Slot), (0 ≤ z95 ∧ z95 ≤ 1000000) → va_P (dC, dI) vwCl (WK cB cI cJ cZ cQ q A3) H → va_S AS s.heap H locs → lv_has ls 7 [(3, .int (iI z1)), (0, .ref (q 27)), (1, .ref (q ta)), (2, .int (iI x2))] → W p l e (headSpec ws_kc_X10_measureWays ({ frames := 3, cells := 0, slots := 0, locals := 68 } : Room)).room s m [.ref (q 27), .ref (q ta), .int (iI x2)].toArray below meth c H locs 0 0 Q (F0 m 30 ls [.int (iI z95), .int (iI z1), .ref (q 28)]) := by
          intro z95 H locs ls f97 hP hS hl
          refine k_iast (Wf := WK cB cI cJ cZ cQ q) hx hb hK hP hDD hS 28 1 (wkWTw) rfl (by omega) (by decide) dX10_measureWays_30 (wsWTw) (fun H locs A98 hA98 hP hS => ?_)
          have hI := isWTw hA98 hI (show (-2147483648 : Int) ≤ z95 ∧ z95 ≤ 2147483647 from (rb f97 (by decide) (by decide)))
          refine lv_iinc (v := iI (z1 + 1)) (lv' := [(3, .int (iI (z1 + 1))), (0, .ref (q 27)), (1, .ref (q ta)), (2, .int (iI x2))]) hx hb dX10_measureWays_31 hl (k := 0) rfl (i_inc (by omega)) (by decide) rfl (fun ls hl => ?_)
          refine lv_goto (tgt := 2) hx hb dX10_measureWays_34 (by decide) ?_
          exact ih5 _ (by omega) (z1 + 1) _ _ _ _ (by omega) rfl hI (fk.da (fk.trans (fk.rf) hj2 rfl rfl) hA98 rfl) hP hS (lv_sub hl [0, 1, 2, 3] rfl)
        refine lv_icmp_ne (tgt := 28) hx hb dX10_measureWays_21 (by decide) (fun c93 => ?_) (fun c93 => ?_)
        · have c93 : ¬ z91 = z92 := mt (i_eq (by omega) (by omega)).mpr c93
          refine lv_ldc (v := 1000000) hx hb hown (hts _ (List.mem_cons_of_mem _ (wk_in_9 _ (List.mem_of_getElem? (i := 46) rfl)))) dX10_measureWays_28 ?_
          refine tp_i (y := iI 1000000) (by decide +kernel) ?_
          exact J30_94 1000000 _ _ _ (by omega) hP hS (lv_sub hl [0, 1, 2, 3] rfl)
        · have c93 : z91 = z92 := (i_eq (by omega) (by omega)).mp c93
          refine lv_iconst (v := iI 0) hx hb dX10_measureWays_24 (by decide +kernel) ?_
          refine lv_goto (tgt := 30) hx hb dX10_measureWays_25 (by decide) ?_
          exact J30_94 0 _ _ _ (by omega) hP hS (lv_sub hl [0, 1, 2, 3] rfl)
  exact L2_4 _ 0 _ _ _ _ (by omega) rfl hI (fk.rf) hP hS (lv_sub hl [0, 1, 2, 3] rfl)
