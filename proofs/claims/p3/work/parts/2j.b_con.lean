def ws_kc_X9_addKey : List Cond := .code yX9_addKey cX9_addKey 3 (some .boolean) :: WY
set_option maxHeartbeats 4000000 in
set_option maxRecDepth 100000 in
theorem kc_X9_addKey (l : Launch) (dC : Nat → ClassId) (dI : Nat → Nat → Nat) (cB cI cJ cZ cQ : ClassId) (aL aS : Nat) (q : Nat → Nat) (A : St) (ta : Nat) (x1 x2 : Int) (hI : IK A) (hta : isT ta) (hx1 : (-2147483648 : Int) ≤ x1 ∧ x1 ≤ 2147483647) (hx2 : (-2147483648 : Int) ≤ x2 ∧ x2 ≤ 2147483647) : KMi l yX9_addKey ws_kc_X9_addKey ({ frames := 1, cells := 0, slots := 0, locals := 22 } : Room) aL aS (dC, dI) (tyA cB cI cJ cZ cQ) (WK cB cI cJ cZ cQ q) A [.ref (q ta), .int (iI x1), .int (iI x2)] (fun z u => IK u ∧ fk [34, 43, 52, 54, 55, 56, 57, 58, 75, 83, 85, 86, 87, 88, 89, 106] [] A u ∧ (0 ≤ z ∧ z ≤ 1)) := by
  refine k_metz (cc := cX9_addKey) (maxL := 3) WK_adr (plainFor_of_name (by decide +kernel)) rfl (Nat.le_of_ble_eq_true rfl) (fun z u h => h.2.2) (fun p e s m below meth c Q AS ls hx hb hml hown hts hK hDD hA0 hE RET H locs hP hS hl => ?_)
  have hown : s.vm.findClass RX9 = some m.cls := hown
  have hl : lv_has ls 3 [(0, .ref (q ta)), (1, .int (iI x1)), (2, .int (iI x2))] := hl
  have hiX9 : ∀ w ∈ u_ws RX9 TX9 16, w ∈ ws_kc_X9_addKey := fun w h => List.mem_cons_of_mem _ (wy_layX9 w h)
  have hiX6 : ∀ w ∈ u_ws RX6 TX6 4, w ∈ ws_kc_X9_addKey := fun w h => List.mem_cons_of_mem _ (wy_layX6 w h)
  refine lv_aload_n hx hb dX9_addKey_0 rfl (lv_at hl 0 rfl) ?_
  refine lv_iconst (v := iI 2) hx hb dX9_addKey_1 (by decide +kernel) ?_
  refine lv_iload_n hx hb dX9_addKey_2 rfl (lv_at hl 1 rfl) ?_
  refine k_calli (As := [.int (iI 2), .int (iI x1)]) (rest := []) ⟨hx, hb, hml, hown, hts⟩ hE (kc_X9_add_1_2 l dC dI cB cI cJ cZ cQ aL aS q _ ta x1 hI hta hx1) (cwV 2 hts (goodVk (wk_in_6 _ (List.mem_of_getElem? (i := 18) rfl)) (wk_in_5 _ (List.mem_of_getElem? (i := 59) rfl)) (wk_in_6 _ (List.mem_of_getElem? (i := 0) rfl)) (wk_in_0 _ (List.mem_of_getElem? (i := 6) rfl)) (wk_in_6 _ (List.mem_of_getElem? (i := 1) rfl))) rfl rfl rfl (by decide +kernel) ⟨Nat.le_of_ble_eq_true rfl, Nat.le_of_ble_eq_true rfl⟩) hK hDD hA0 hP hS ta 9 (wkT hta) rfl rfl hl.1 (Nat.le_of_ble_eq_true rfl) dX9_addKey_3 (fun z1 A2 H locs hw3 hP hS => ?_)
  obtain ⟨hI, hf4, hw3⟩ := hw3
  have rz1 : 0 ≤ z1 ∧ z1 ≤ 1 := hw3.1
  have hw3 := hw3.2
  refine lv_if_ne (tgt := 11) hx hb dX9_addKey_6 (by decide) (fun c5 => ?_) (fun c5 => ?_)
  · have c5 : ¬ z1 = 0 := mt (i_eq0 (rb rz1 (by decide) (by decide))).mpr c5
    have hw3b := hw3 (by omega)
    clear hw3
    refine lv_aload_n hx hb dX9_addKey_11 rfl (lv_at hl 0 rfl) ?_
    refine va_get (D := (dC, dI)) (ci := 9) (v := .ref (q (ta + 22))) (C := RX9) (T := TX9) (N := 16) hx hb hts hiX9 hown hK hP ta (wkT hta) rfl 14 (by decide) (hts _ (List.mem_cons_of_mem _ (wk_in_0 _ (List.mem_of_getElem? (i := 9) rfl)))) (fun _ h9 => h9) rfl dX9_addKey_12 ?_
    refine va_get (D := (dC, dI)) (ci := 6) (v := .ref (q ((ta + 22) + 2))) (C := RX6) (T := TX6) (N := 4) hx hb hts hiX6 hown hK hP (ta + 22) (wkS hta.s) rfl 1 (by decide) (hts _ (List.mem_cons_of_mem _ (wk_in_0 _ (List.mem_of_getElem? (i := 10) rfl)))) (fun _ h9 => h9) rfl dX9_addKey_15 ?_
    refine lv_aload_n hx hb dX9_addKey_18 rfl (lv_at hl 0 rfl) ?_
    refine va_get (D := (dC, dI)) (ci := 9) (v := .ref (q (ta + 1))) (C := RX9) (T := TX9) (N := 16) hx hb hts hiX9 hown hK hP ta (wkT hta) rfl 0 (by decide) (hts _ (List.mem_cons_of_mem _ (wk_in_0 _ (List.mem_of_getElem? (i := 8) rfl)))) (fun _ h9 => h9) rfl dX9_addKey_19 ?_
    refine lv_iconst (v := iI 2) hx hb dX9_addKey_22 (by decide +kernel) ?_
    refine x_iald (Wf := WK cB cI cJ cZ cQ q) hx hb hK hP (ta + 1) 1 (wkTc hta) rfl (by decide) (by decide) dX9_addKey_23 (fun z6 hz6 => ?_)
    have rz6 : (0 : Int) ≤ z6 ∧ z6 ≤ 4 := by rw [hz6]; exact irTc2 hta hI
    refine lv_iconst (v := iI 1) hx hb dX9_addKey_24 (by decide +kernel) ?_
    refine x_subv (v := z6 - 1) hx hb dX9_addKey_25 (by omega) ?_
    refine lv_iload_n hx hb dX9_addKey_26 rfl (lv_at hl 2 rfl) ?_
    refine k_iast (Wf := WK cB cI cJ cZ cQ q) hx hb hK hP hDD hS ((ta + 22) + 2) 1 (wkSw hta.s) rfl (by omega) (by decide) dX9_addKey_27 (wsSw hta.s) (fun H locs A7 hA7 hP hS => ?_)
    have hI := isSw hta.s hA7 hI (show (-2147483648 : Int) ≤ x2 ∧ x2 ≤ 2147483647 from hx2)
    refine lv_iconst (v := iI 1) hx hb dX9_addKey_28 (by decide +kernel) ?_
    exact RET 1 _ _ _ _ _ ⟨hI, fk.da (fk.trans (fk.rf) hf4 rfl rfl) hA7 (isS.b2 (o := fun b => List.contains [34, 43, 52, 54, 55, 56, 57, 58, 75, 83, 85, 86, 87, 88, 89, 106] (b + 2)) hta.s rfl rfl rfl rfl), ⟨by decide, by decide⟩⟩ hP hS dX9_addKey_29
  · have c5 : z1 = 0 := (i_eq0 (rb rz1 (by decide) (by decide))).mp c5
    clear hw3
    refine lv_iconst (v := iI 0) hx hb dX9_addKey_9 (by decide +kernel) ?_
    exact RET 0 _ _ _ _ _ ⟨hI, fk.trans (fk.rf) hf4 rfl rfl, ⟨by decide, by decide⟩⟩ hP hS dX9_addKey_10

def ws_kc_X5_readKey : List Cond := .code yX5_readKey cX5_readKey 4 (some .boolean) :: WY
set_option maxHeartbeats 4000000 in
set_option maxRecDepth 100000 in
theorem kc_X5_readKey (l : Launch) (dC : Nat → ClassId) (dI : Nat → Nat → Nat) (cB cI cJ cZ cQ : ClassId) (aL aS : Nat) (q : Nat → Nat) (A : St) (ta : Nat) (hI : IK A) (hta : isT ta) : KMi l yX5_readKey ws_kc_X5_readKey ({ frames := 4, cells := 0, slots := 0, locals := 89 } : Room) aL aS (dC, dI) (tyA cB cI cJ cZ cQ) (WK cB cI cJ cZ cQ q) A [.ref (q 3), .ref (q ta)] (fun z u => IK u ∧ fk [34, 43, 52, 54, 55, 56, 57, 58, 75, 83, 85, 86, 87, 88, 89, 106] [(3, 2), (3, 3), (5, 1), (5, 2), (5, 3), (5, 4), (5, 5), (5, 6)] A u ∧ (0 ≤ z ∧ z ≤ 1)) := by
  refine k_metz (cc := cX5_readKey) (maxL := 4) WK_adr (plainFor_of_name (by decide +kernel)) rfl (Nat.le_of_ble_eq_true rfl) (fun z u h => h.2.2) (fun p e s m below meth c Q AS ls hx hb hml hown hts hK hDD hA0 hE RET H locs hP hS hl => ?_)
  have hown : s.vm.findClass RX5 = some m.cls := hown
  have hl : lv_has ls 4 [(0, .ref (q 3)), (1, .ref (q ta))] := hl
  refine lv_aload_n hx hb dX5_readKey_0 rfl (lv_at hl 0 rfl) ?_
  refine lv_aload_n hx hb dX5_readKey_1 rfl (lv_at hl 1 rfl) ?_
  refine k_calli (As := [.ref (q ta)]) (rest := []) ⟨hx, hb, hml, hown, hts⟩ hE (kc_X5_newName l dC dI cB cI cJ cZ cQ aL aS q _ ta hI hta) (cwV 1 hts (goodVk (wk_in_5 _ (List.mem_of_getElem? (i := 45) rfl)) (wk_in_5 _ (List.mem_of_getElem? (i := 46) rfl)) (wk_in_5 _ (List.mem_of_getElem? (i := 47) rfl)) (wk_in_5 _ (List.mem_of_getElem? (i := 28) rfl)) (wk_in_5 _ (List.mem_of_getElem? (i := 48) rfl))) rfl rfl rfl (by decide +kernel) ⟨Nat.le_of_ble_eq_true rfl, Nat.le_of_ble_eq_true rfl⟩) hK hDD hA0 hP hS 3 5 (wkRD) rfl rfl hl.1 (Nat.le_of_ble_eq_true rfl) dX5_readKey_2 (fun z1 A2 H locs hw3 hP hS => ?_)
  obtain ⟨hI, hf4, hw3⟩ := hw3
  refine lv_istore_n (lv' := [(2, .int (iI z1)), (0, .ref (q 3)), (1, .ref (q ta))]) hx hb dX5_readKey_5 rfl hl (by decide) rfl (fun ls hl => ?_)
  refine lv_iload_n hx hb dX5_readKey_6 rfl (lv_at hl 0 rfl) ?_
  refine lv_iconst (v := iI (-1)) hx hb dX5_readKey_7 (by decide +kernel) ?_
  refine lv_icmp_eq (tgt := 20) hx hb dX5_readKey_8 (by decide) (fun c5 => ?_) (fun c5 => ?_)
  · have c5 : z1 = (-1) := (i_eq hw3 ⟨by decide, by decide⟩).mp c5
    refine lv_iconst (v := iI 0) hx hb dX5_readKey_20 (by decide +kernel) ?_
    exact RET 0 _ _ _ _ _ ⟨hI, fk.trans (fk.rf) hf4 rfl rfl, ⟨by decide, by decide⟩⟩ hP hS dX5_readKey_21
  · have c5 : ¬ z1 = (-1) := mt (i_eq hw3 ⟨by decide, by decide⟩).mpr c5
    refine lv_aload_n hx hb dX5_readKey_11 rfl (lv_at hl 1 rfl) ?_
    refine lv_bipush (v := iI 13) hx hb dX5_readKey_12 (by decide +kernel) ?_
    refine k_calli (As := [.int (iI 13)]) (rest := []) ⟨hx, hb, hml, hown, hts⟩ hE (kc_X5_ownWord l dC dI cB cI cJ cZ cQ aL aS q _ 13 hI ⟨by decide, by decide⟩) (cwV 1 hts (goodVk (wk_in_6 _ (List.mem_of_getElem? (i := 23) rfl)) (wk_in_6 _ (List.mem_of_getElem? (i := 24) rfl)) (wk_in_6 _ (List.mem_of_getElem? (i := 25) rfl)) (wk_in_5 _ (List.mem_of_getElem? (i := 28) rfl)) (wk_in_6 _ (List.mem_of_getElem? (i := 26) rfl))) rfl rfl rfl (by decide +kernel) ⟨Nat.le_of_ble_eq_true rfl, Nat.le_of_ble_eq_true rfl⟩) hK hDD hA0 hP hS 3 5 (wkRD) rfl rfl hl.1 (Nat.le_of_ble_eq_true rfl) dX5_readKey_14 (fun z6 A7 H locs hw8 hP hS => ?_)
    obtain ⟨hI, hf9, hw8⟩ := hw8
    refine lv_if_ne (tgt := 22) hx hb dX5_readKey_17 (by decide) (fun c10 => ?_) (fun c10 => ?_)
    · have c10 : ¬ z6 = 0 := mt (i_eq0 (rb hw8 (by decide) (by decide))).mpr c10
      refine lv_aload_n hx hb dX5_readKey_22 rfl (lv_at hl 1 rfl) ?_
      refine lv_aload_n hx hb dX5_readKey_23 rfl (lv_at hl 2 rfl) ?_
      refine k_calli (As := [.ref (q ta)]) (rest := []) ⟨hx, hb, hml, hown, hts⟩ hE (kc_X5_askedSpot l dC dI cB cI cJ cZ cQ aL aS q _ ta hI hta) (cwV 1 hts (goodVk (wk_in_6 _ (List.mem_of_getElem? (i := 35) rfl)) (wk_in_6 _ (List.mem_of_getElem? (i := 36) rfl)) (wk_in_6 _ (List.mem_of_getElem? (i := 37) rfl)) (wk_in_5 _ (List.mem_of_getElem? (i := 28) rfl)) (wk_in_6 _ (List.mem_of_getElem? (i := 38) rfl))) rfl rfl rfl (by decide +kernel) ⟨Nat.le_of_ble_eq_true rfl, Nat.le_of_ble_eq_true rfl⟩) hK hDD hA0 hP hS 3 5 (wkRD) rfl rfl hl.1 (Nat.le_of_ble_eq_true rfl) dX5_readKey_24 (fun z11 A12 H locs hw13 hP hS => ?_)
      obtain ⟨hI, hf14, hw13⟩ := hw13
      refine lv_istore_n (lv' := [(3, .int (iI z11)), (2, .int (iI z1)), (0, .ref (q 3)), (1, .ref (q ta))]) hx hb dX5_readKey_27 rfl hl (by decide) rfl (fun ls hl => ?_)
      refine lv_iload_n hx hb dX5_readKey_28 rfl (lv_at hl 0 rfl) ?_
      refine lv_iconst (v := iI (-1)) hx hb dX5_readKey_29 (by decide +kernel) ?_
      refine lv_icmp_eq (tgt := 46) hx hb dX5_readKey_30 (by decide) (fun c15 => ?_) (fun c15 => ?_)
      · have c15 : z11 = (-1) := (i_eq hw13 ⟨by decide, by decide⟩).mp c15
        refine lv_iconst (v := iI 0) hx hb dX5_readKey_46 (by decide +kernel) ?_
        exact RET 0 _ _ _ _ _ ⟨hI, fk.trans (fk.trans (fk.trans (fk.rf) hf4 rfl rfl) hf9 rfl rfl) hf14 rfl rfl, ⟨by decide, by decide⟩⟩ hP hS dX5_readKey_47
      · have c15 : ¬ z11 = (-1) := mt (i_eq hw13 ⟨by decide, by decide⟩).mpr c15
        refine lv_aload_n hx hb dX5_readKey_33 rfl (lv_at hl 3 rfl) ?_
        refine lv_iload_n hx hb dX5_readKey_34 rfl (lv_at hl 1 rfl) ?_
        refine lv_iload_n hx hb dX5_readKey_35 rfl (lv_at hl 0 rfl) ?_
        refine k_calli (As := [.int (iI z1), .int (iI z11)]) (rest := []) ⟨hx, hb, hml, hown, hts⟩ hE (kc_X9_addKey l dC dI cB cI cJ cZ cQ aL aS q _ ta z1 z11 hI hta hw3 hw13) (cwV 2 hts (goodVk (wk_in_6 _ (List.mem_of_getElem? (i := 40) rfl)) (wk_in_6 _ (List.mem_of_getElem? (i := 41) rfl)) (wk_in_6 _ (List.mem_of_getElem? (i := 42) rfl)) (wk_in_0 _ (List.mem_of_getElem? (i := 6) rfl)) (wk_in_6 _ (List.mem_of_getElem? (i := 43) rfl))) rfl rfl rfl (by decide +kernel) ⟨Nat.le_of_ble_eq_true rfl, Nat.le_of_ble_eq_true rfl⟩) hK hDD hA0 hP hS ta 9 (wkT hta) rfl rfl hl.1 (Nat.le_of_ble_eq_true rfl) dX5_readKey_36 (fun z16 A17 H locs hw18 hP hS => ?_)
        obtain ⟨hI, hf19, hw18⟩ := hw18
        refine lv_if_eq (tgt := 46) hx hb dX5_readKey_39 (by decide) (fun c20 => ?_) (fun c20 => ?_)
        · have c20 : z16 = 0 := (i_eq0 (rb hw18 (by decide) (by decide))).mp c20
          refine lv_iconst (v := iI 0) hx hb dX5_readKey_46 (by decide +kernel) ?_
          exact RET 0 _ _ _ _ _ ⟨hI, fk.trans (fk.trans (fk.trans (fk.trans (fk.rf) hf4 rfl rfl) hf9 rfl rfl) hf14 rfl rfl) hf19 rfl rfl, ⟨by decide, by decide⟩⟩ hP hS dX5_readKey_47
        · have c20 : ¬ z16 = 0 := mt (i_eq0 (rb hw18 (by decide) (by decide))).mpr c20
          refine lv_iconst (v := iI 1) hx hb dX5_readKey_42 (by decide +kernel) ?_
          refine lv_goto (tgt := 47) hx hb dX5_readKey_43 (by decide) ?_
          exact RET 1 _ _ _ _ _ ⟨hI, fk.trans (fk.trans (fk.trans (fk.trans (fk.rf) hf4 rfl rfl) hf9 rfl rfl) hf14 rfl rfl) hf19 rfl rfl, ⟨by decide, by decide⟩⟩ hP hS dX5_readKey_47
    · have c10 : z6 = 0 := (i_eq0 (rb hw8 (by decide) (by decide))).mp c10
      refine lv_iconst (v := iI 0) hx hb dX5_readKey_20 (by decide +kernel) ?_
      exact RET 0 _ _ _ _ _ ⟨hI, fk.trans (fk.trans (fk.rf) hf4 rfl rfl) hf9 rfl rfl, ⟨by decide, by decide⟩⟩ hP hS dX5_readKey_21

def ws_kc_X9_addDoor : List Cond := .code yX9_addDoor cX9_addDoor 6 (some .boolean) :: WY
set_option maxHeartbeats 4000000 in
set_option maxRecDepth 100000 in
theorem kc_X9_addDoor (l : Launch) (dC : Nat → ClassId) (dI : Nat → Nat → Nat) (cB cI cJ cZ cQ : ClassId) (aL aS : Nat) (q : Nat → Nat) (A : St) (ta : Nat) (x1 x2 x3 x4 : Int) (hI : IK A) (hta : isT ta) (hx1 : (-2147483648 : Int) ≤ x1 ∧ x1 ≤ 2147483647) (hx2 : (-2147483648 : Int) ≤ x2 ∧ x2 ≤ 2147483647) (hx3 : (-2147483648 : Int) ≤ x3 ∧ x3 ≤ 2147483647) (hx4 : (-2147483648 : Int) ≤ x4 ∧ x4 ≤ 2147483647) : KMi l yX9_addDoor ws_kc_X9_addDoor ({ frames := 1, cells := 0, slots := 0, locals := 22 } : Room) aL aS (dC, dI) (tyA cB cI cJ cZ cQ) (WK cB cI cJ cZ cQ q) A [.ref (q ta), .int (iI x1), .int (iI x2), .int (iI x3), .int (iI x4)] (fun z u => IK u ∧ fk [52, 54, 55, 56, 57, 58, 59, 60, 61, 83, 85, 86, 87, 88, 89, 90, 91, 92] [] A u ∧ (0 ≤ z ∧ z ≤ 1)) := by
  refine k_metz (cc := cX9_addDoor) (maxL := 6) WK_adr (plainFor_of_name (by decide +kernel)) rfl (Nat.le_of_ble_eq_true rfl) (fun z u h => h.2.2) (fun p e s m below meth c Q AS ls hx hb hml hown hts hK hDD hA0 hE RET H locs hP hS hl => ?_)
  have hown : s.vm.findClass RX9 = some m.cls := hown
  have hl : lv_has ls 6 [(0, .ref (q ta)), (1, .int (iI x1)), (2, .int (iI x2)), (3, .int (iI x3)), (4, .int (iI x4))] := hl
  have hiX9 : ∀ w ∈ u_ws RX9 TX9 16, w ∈ ws_kc_X9_addDoor := fun w h => List.mem_cons_of_mem _ (wy_layX9 w h)
  refine lv_aload_n hx hb dX9_addDoor_0 rfl (lv_at hl 0 rfl) ?_
  refine lv_iconst (v := iI 1) hx hb dX9_addDoor_1 (by decide +kernel) ?_
  refine lv_iload_n hx hb dX9_addDoor_2 rfl (lv_at hl 1 rfl) ?_
  refine k_calli (As := [.int (iI 1), .int (iI x1)]) (rest := []) ⟨hx, hb, hml, hown, hts⟩ hE (kc_X9_add_1_1 l dC dI cB cI cJ cZ cQ aL aS q _ ta x1 hI hta hx1) (cwV 2 hts (goodVk (wk_in_6 _ (List.mem_of_getElem? (i := 18) rfl)) (wk_in_5 _ (List.mem_of_getElem? (i := 59) rfl)) (wk_in_6 _ (List.mem_of_getElem? (i := 0) rfl)) (wk_in_0 _ (List.mem_of_getElem? (i := 6) rfl)) (wk_in_6 _ (List.mem_of_getElem? (i := 1) rfl))) rfl rfl rfl (by decide +kernel) ⟨Nat.le_of_ble_eq_true rfl, Nat.le_of_ble_eq_true rfl⟩) hK hDD hA0 hP hS ta 9 (wkT hta) rfl rfl hl.1 (Nat.le_of_ble_eq_true rfl) dX9_addDoor_3 (fun z1 A2 H locs hw3 hP hS => ?_)
  obtain ⟨hI, hf4, hw3⟩ := hw3
  have rz1 : 0 ≤ z1 ∧ z1 ≤ 1 := hw3.1
  have hw3 := hw3.2
  refine lv_if_ne (tgt := 11) hx hb dX9_addDoor_6 (by decide) (fun c5 => ?_) (fun c5 => ?_)
  · have c5 : ¬ z1 = 0 := mt (i_eq0 (rb rz1 (by decide) (by decide))).mpr c5
    have hw3b := hw3 (by omega)
    clear hw3
    refine lv_aload_n hx hb dX9_addDoor_11 rfl (lv_at hl 0 rfl) ?_
    refine va_get (D := (dC, dI)) (ci := 9) (v := .ref (q (ta + 1))) (C := RX9) (T := TX9) (N := 16) hx hb hts hiX9 hown hK hP ta (wkT hta) rfl 0 (by decide) (hts _ (List.mem_cons_of_mem _ (wk_in_0 _ (List.mem_of_getElem? (i := 8) rfl)))) (fun _ h9 => h9) rfl dX9_addDoor_12 ?_
    refine lv_iconst (v := iI 1) hx hb dX9_addDoor_15 (by decide +kernel) ?_
    refine x_iald (Wf := WK cB cI cJ cZ cQ q) hx hb hK hP (ta + 1) 1 (wkTc hta) rfl (by decide) (by decide) dX9_addDoor_16 (fun z6 hz6 => ?_)
    have rz6 : (0 : Int) ≤ z6 ∧ z6 ≤ 10 := by rw [hz6]; exact irTc1 hta hI
    refine lv_iconst (v := iI 1) hx hb dX9_addDoor_17 (by decide +kernel) ?_
    refine x_subv (v := z6 - 1) hx hb dX9_addDoor_18 (by omega) ?_
    refine lv_istore (lv' := [(5, .int (iI (z6 - 1))), (0, .ref (q ta)), (1, .int (iI x1)), (2, .int (iI x2)), (3, .int (iI x3)), (4, .int (iI x4))]) hx hb dX9_addDoor_19 hl (by decide) rfl (fun ls hl => ?_)
    refine lv_aload_n hx hb dX9_addDoor_21 rfl (lv_at hl 1 rfl) ?_
    refine va_get (D := (dC, dI)) (ci := 9) (v := .ref (q (ta + 8))) (C := RX9) (T := TX9) (N := 16) hx hb hts hiX9 hown hK hP ta (wkT hta) rfl 2 (by decide) (hts _ (List.mem_cons_of_mem _ (wk_in_1 _ (List.mem_of_getElem? (i := 14) rfl)))) (fun _ h9 => h9) rfl dX9_addDoor_22 ?_
    refine lv_iload hx hb dX9_addDoor_25 (lv_at hl 0 rfl) ?_
    refine lv_iload_n hx hb dX9_addDoor_27 rfl (lv_at hl 3 rfl) ?_
    refine k_iast (Wf := WK cB cI cJ cZ cQ q) hx hb hK hP hDD hS (ta + 8) 1 (wkTf hta) rfl (by omega) (by decide) dX9_addDoor_28 (wsTf hta) (fun H locs A7 hA7 hP hS => ?_)
    have hI := isTf hta hA7 hI (show (-2147483648 : Int) ≤ x2 ∧ x2 ≤ 2147483647 from hx2)
    refine lv_aload_n hx hb dX9_addDoor_29 rfl (lv_at hl 1 rfl) ?_
    refine va_get (D := (dC, dI)) (ci := 9) (v := .ref (q (ta + 9))) (C := RX9) (T := TX9) (N := 16) hx hb hts hiX9 hown hK hP ta (wkT hta) rfl 3 (by decide) (hts _ (List.mem_cons_of_mem _ (wk_in_1 _ (List.mem_of_getElem? (i := 15) rfl)))) (fun _ h9 => h9) rfl dX9_addDoor_30 ?_
    refine lv_iload hx hb dX9_addDoor_33 (lv_at hl 0 rfl) ?_
    refine lv_iload_n hx hb dX9_addDoor_35 rfl (lv_at hl 4 rfl) ?_
    refine k_iast (Wf := WK cB cI cJ cZ cQ q) hx hb hK hP hDD hS (ta + 9) 1 (wkTs hta) rfl (by omega) (by decide) dX9_addDoor_36 (wsTs hta) (fun H locs A8 hA8 hP hS => ?_)
    have hI := isTs hta hA8 hI (show (-2147483648 : Int) ≤ x3 ∧ x3 ≤ 2147483647 from hx3)
    refine lv_aload_n hx hb dX9_addDoor_37 rfl (lv_at hl 1 rfl) ?_
    refine va_get (D := (dC, dI)) (ci := 9) (v := .ref (q (ta + 10))) (C := RX9) (T := TX9) (N := 16) hx hb hts hiX9 hown hK hP ta (wkT hta) rfl 4 (by decide) (hts _ (List.mem_cons_of_mem _ (wk_in_1 _ (List.mem_of_getElem? (i := 9) rfl)))) (fun _ h9 => h9) rfl dX9_addDoor_38 ?_
    refine lv_iload hx hb dX9_addDoor_41 (lv_at hl 0 rfl) ?_
    refine lv_iload hx hb dX9_addDoor_43 (lv_at hl 5 rfl) ?_
    refine k_iast (Wf := WK cB cI cJ cZ cQ q) hx hb hK hP hDD hS (ta + 10) 1 (wkTm hta) rfl (by omega) (by decide) dX9_addDoor_45 (wsTm hta) (fun H locs A9 hA9 hP hS => ?_)
    have hI := isTm hta hA9 hI (show (-2147483648 : Int) ≤ x4 ∧ x4 ≤ 2147483647 from hx4)
    refine lv_iconst (v := iI 1) hx hb dX9_addDoor_46 (by decide +kernel) ?_
    exact RET 1 _ _ _ _ _ ⟨hI, fk.da (fk.da (fk.da (fk.trans (fk.rf) hf4 rfl rfl) hA7 (isT.b2 (o := fun b => List.contains [52, 54, 55, 56, 57, 58, 59, 60, 61, 83, 85, 86, 87, 88, 89, 90, 91, 92] (b + 8)) hta rfl rfl)) hA8 (isT.b2 (o := fun b => List.contains [52, 54, 55, 56, 57, 58, 59, 60, 61, 83, 85, 86, 87, 88, 89, 90, 91, 92] (b + 9)) hta rfl rfl)) hA9 (isT.b2 (o := fun b => List.contains [52, 54, 55, 56, 57, 58, 59, 60, 61, 83, 85, 86, 87, 88, 89, 90, 91, 92] (b + 10)) hta rfl rfl), ⟨by decide, by decide⟩⟩ hP hS dX9_addDoor_47
  · have c5 : z1 = 0 := (i_eq0 (rb rz1 (by decide) (by decide))).mp c5
    clear hw3
    refine lv_iconst (v := iI 0) hx hb dX9_addDoor_9 (by decide +kernel) ?_
    exact RET 0 _ _ _ _ _ ⟨hI, fk.trans (fk.rf) hf4 rfl rfl, ⟨by decide, by decide⟩⟩ hP hS dX9_addDoor_10

def ws_kc_X5_readBox : List Cond := .code yX5_readBox cX5_readBox 4 (some .boolean) :: WY
set_option maxHeartbeats 4000000 in
set_option maxRecDepth 100000 in
theorem kc_X5_readBox (l : Launch) (dC : Nat → ClassId) (dI : Nat → Nat → Nat) (cB cI cJ cZ cQ : ClassId) (aL aS : Nat) (q : Nat → Nat) (A : St) (ta : Nat) (hI : IK A) (hta : isT ta) : KMi l yX5_readBox ws_kc_X5_readBox ({ frames := 4, cells := 0, slots := 0, locals := 89 } : Room) aL aS (dC, dI) (tyA cB cI cJ cZ cQ) (WK cB cI cJ cZ cQ q) A [.ref (q 3), .ref (q ta)] (fun z u => IK u ∧ fk [52, 54, 55, 56, 57, 58, 59, 60, 61, 83, 85, 86, 87, 88, 89, 90, 91, 92] [(3, 2), (3, 3), (5, 1), (5, 2), (5, 3), (5, 4), (5, 5), (5, 6)] A u ∧ (0 ≤ z ∧ z ≤ 1)) := by
  refine k_metz (cc := cX5_readBox) (maxL := 4) WK_adr (plainFor_of_name (by decide +kernel)) rfl (Nat.le_of_ble_eq_true rfl) (fun z u h => h.2.2) (fun p e s m below meth c Q AS ls hx hb hml hown hts hK hDD hA0 hE RET H locs hP hS hl => ?_)
  have hown : s.vm.findClass RX5 = some m.cls := hown
  have hl : lv_has ls 4 [(0, .ref (q 3)), (1, .ref (q ta))] := hl
  refine lv_aload_n hx hb dX5_readBox_0 rfl (lv_at hl 0 rfl) ?_
  refine lv_aload_n hx hb dX5_readBox_1 rfl (lv_at hl 1 rfl) ?_
  refine k_calli (As := [.ref (q ta)]) (rest := []) ⟨hx, hb, hml, hown, hts⟩ hE (kc_X5_newName l dC dI cB cI cJ cZ cQ aL aS q _ ta hI hta) (cwV 1 hts (goodVk (wk_in_5 _ (List.mem_of_getElem? (i := 45) rfl)) (wk_in_5 _ (List.mem_of_getElem? (i := 46) rfl)) (wk_in_5 _ (List.mem_of_getElem? (i := 47) rfl)) (wk_in_5 _ (List.mem_of_getElem? (i := 28) rfl)) (wk_in_5 _ (List.mem_of_getElem? (i := 48) rfl))) rfl rfl rfl (by decide +kernel) ⟨Nat.le_of_ble_eq_true rfl, Nat.le_of_ble_eq_true rfl⟩) hK hDD hA0 hP hS 3 5 (wkRD) rfl rfl hl.1 (Nat.le_of_ble_eq_true rfl) dX5_readBox_2 (fun z1 A2 H locs hw3 hP hS => ?_)
  obtain ⟨hI, hf4, hw3⟩ := hw3
  refine lv_istore_n (lv' := [(2, .int (iI z1)), (0, .ref (q 3)), (1, .ref (q ta))]) hx hb dX5_readBox_5 rfl hl (by decide) rfl (fun ls hl => ?_)
  refine lv_iload_n hx hb dX5_readBox_6 rfl (lv_at hl 0 rfl) ?_
  refine lv_iconst (v := iI (-1)) hx hb dX5_readBox_7 (by decide +kernel) ?_
  refine lv_icmp_eq (tgt := 20) hx hb dX5_readBox_8 (by decide) (fun c5 => ?_) (fun c5 => ?_)
  · have c5 : z1 = (-1) := (i_eq hw3 ⟨by decide, by decide⟩).mp c5
    refine lv_iconst (v := iI 0) hx hb dX5_readBox_20 (by decide +kernel) ?_
    exact RET 0 _ _ _ _ _ ⟨hI, fk.trans (fk.rf) hf4 rfl rfl, ⟨by decide, by decide⟩⟩ hP hS dX5_readBox_21
  · have c5 : ¬ z1 = (-1) := mt (i_eq hw3 ⟨by decide, by decide⟩).mpr c5
    refine lv_aload_n hx hb dX5_readBox_11 rfl (lv_at hl 1 rfl) ?_
    refine lv_bipush (v := iI 12) hx hb dX5_readBox_12 (by decide +kernel) ?_
    refine k_calli (As := [.int (iI 12)]) (rest := []) ⟨hx, hb, hml, hown, hts⟩ hE (kc_X5_ownWord l dC dI cB cI cJ cZ cQ aL aS q _ 12 hI ⟨by decide, by decide⟩) (cwV 1 hts (goodVk (wk_in_6 _ (List.mem_of_getElem? (i := 23) rfl)) (wk_in_6 _ (List.mem_of_getElem? (i := 24) rfl)) (wk_in_6 _ (List.mem_of_getElem? (i := 25) rfl)) (wk_in_5 _ (List.mem_of_getElem? (i := 28) rfl)) (wk_in_6 _ (List.mem_of_getElem? (i := 26) rfl))) rfl rfl rfl (by decide +kernel) ⟨Nat.le_of_ble_eq_true rfl, Nat.le_of_ble_eq_true rfl⟩) hK hDD hA0 hP hS 3 5 (wkRD) rfl rfl hl.1 (Nat.le_of_ble_eq_true rfl) dX5_readBox_14 (fun z6 A7 H locs hw8 hP hS => ?_)
    obtain ⟨hI, hf9, hw8⟩ := hw8
    refine lv_if_ne (tgt := 22) hx hb dX5_readBox_17 (by decide) (fun c10 => ?_) (fun c10 => ?_)
    · have c10 : ¬ z6 = 0 := mt (i_eq0 (rb hw8 (by decide) (by decide))).mpr c10
      refine lv_aload_n hx hb dX5_readBox_22 rfl (lv_at hl 1 rfl) ?_
      refine lv_aload_n hx hb dX5_readBox_23 rfl (lv_at hl 2 rfl) ?_
      refine lv_iconst (v := iI 0) hx hb dX5_readBox_24 (by decide +kernel) ?_
      refine k_calli (As := [.ref (q ta), .int (iI 0)]) (rest := []) ⟨hx, hb, hml, hown, hts⟩ hE (kc_X5_asked_2_0 l dC dI cB cI cJ cZ cQ aL aS q _ ta hI hta) (cwV 2 hts (goodVk (wk_in_6 _ (List.mem_of_getElem? (i := 6) rfl)) (wk_in_6 _ (List.mem_of_getElem? (i := 7) rfl)) (wk_in_6 _ (List.mem_of_getElem? (i := 8) rfl)) (wk_in_5 _ (List.mem_of_getElem? (i := 28) rfl)) (wk_in_6 _ (List.mem_of_getElem? (i := 9) rfl))) rfl rfl rfl (by decide +kernel) ⟨Nat.le_of_ble_eq_true rfl, Nat.le_of_ble_eq_true rfl⟩) hK hDD hA0 hP hS 3 5 (wkRD) rfl rfl hl.1 (Nat.le_of_ble_eq_true rfl) dX5_readBox_25 (fun z11 A12 H locs hw13 hP hS => ?_)
      obtain ⟨hI, hf14, hw13⟩ := hw13
      refine lv_istore_n (lv' := [(3, .int (iI z11)), (2, .int (iI z1)), (0, .ref (q 3)), (1, .ref (q ta))]) hx hb dX5_readBox_28 rfl hl (by decide) rfl (fun ls hl => ?_)
      refine lv_iload_n hx hb dX5_readBox_29 rfl (lv_at hl 0 rfl) ?_
      refine lv_iconst (v := iI (-1)) hx hb dX5_readBox_30 (by decide +kernel) ?_
      refine lv_icmp_eq (tgt := 49) hx hb dX5_readBox_31 (by decide) (fun c15 => ?_) (fun c15 => ?_)
      · have c15 : z11 = (-1) := (i_eq (rb hw13 (by decide) (by decide)) ⟨by decide, by decide⟩).mp c15
        refine lv_iconst (v := iI 0) hx hb dX5_readBox_49 (by decide +kernel) ?_
        exact RET 0 _ _ _ _ _ ⟨hI, fk.trans (fk.trans (fk.trans (fk.rf) hf4 rfl rfl) hf9 rfl rfl) hf14 rfl rfl, ⟨by decide, by decide⟩⟩ hP hS dX5_readBox_50
      · have c15 : ¬ z11 = (-1) := mt (i_eq (rb hw13 (by decide) (by decide)) ⟨by decide, by decide⟩).mpr c15
        refine lv_aload_n hx hb dX5_readBox_34 rfl (lv_at hl 3 rfl) ?_
        refine lv_iload_n hx hb dX5_readBox_35 rfl (lv_at hl 1 rfl) ?_
        refine lv_iload_n hx hb dX5_readBox_36 rfl (lv_at hl 0 rfl) ?_
        refine lv_iload_n hx hb dX5_readBox_37 rfl (lv_at hl 0 rfl) ?_
        refine lv_iconst (v := iI 0) hx hb dX5_readBox_38 (by decide +kernel) ?_
        refine k_calli (As := [.int (iI z1), .int (iI z11), .int (iI z11), .int (iI 0)]) (rest := []) ⟨hx, hb, hml, hown, hts⟩ hE (kc_X9_addDoor l dC dI cB cI cJ cZ cQ aL aS q _ ta z1 z11 z11 0 hI hta hw3 (rb hw13 (by decide) (by decide)) (rb hw13 (by decide) (by decide)) ⟨by decide, by decide⟩) (cwV 4 hts (goodVk (wk_in_6 _ (List.mem_of_getElem? (i := 14) rfl)) (wk_in_6 _ (List.mem_of_getElem? (i := 15) rfl)) (wk_in_6 _ (List.mem_of_getElem? (i := 16) rfl)) (wk_in_0 _ (List.mem_of_getElem? (i := 6) rfl)) (wk_in_6 _ (List.mem_of_getElem? (i := 17) rfl))) rfl rfl rfl (by decide +kernel) ⟨Nat.le_of_ble_eq_true rfl, Nat.le_of_ble_eq_true rfl⟩) hK hDD hA0 hP hS ta 9 (wkT hta) rfl rfl hl.1 (Nat.le_of_ble_eq_true rfl) dX5_readBox_39 (fun z16 A17 H locs hw18 hP hS => ?_)
        obtain ⟨hI, hf19, hw18⟩ := hw18
        refine lv_if_eq (tgt := 49) hx hb dX5_readBox_42 (by decide) (fun c20 => ?_) (fun c20 => ?_)
        · have c20 : z16 = 0 := (i_eq0 (rb hw18 (by decide) (by decide))).mp c20
          refine lv_iconst (v := iI 0) hx hb dX5_readBox_49 (by decide +kernel) ?_
          exact RET 0 _ _ _ _ _ ⟨hI, fk.trans (fk.trans (fk.trans (fk.trans (fk.rf) hf4 rfl rfl) hf9 rfl rfl) hf14 rfl rfl) hf19 rfl rfl, ⟨by decide, by decide⟩⟩ hP hS dX5_readBox_50
        · have c20 : ¬ z16 = 0 := mt (i_eq0 (rb hw18 (by decide) (by decide))).mpr c20
          refine lv_iconst (v := iI 1) hx hb dX5_readBox_45 (by decide +kernel) ?_
          refine lv_goto (tgt := 50) hx hb dX5_readBox_46 (by decide) ?_
          exact RET 1 _ _ _ _ _ ⟨hI, fk.trans (fk.trans (fk.trans (fk.trans (fk.rf) hf4 rfl rfl) hf9 rfl rfl) hf14 rfl rfl) hf19 rfl rfl, ⟨by decide, by decide⟩⟩ hP hS dX5_readBox_50
    · have c10 : z6 = 0 := (i_eq0 (rb hw8 (by decide) (by decide))).mp c10
      refine lv_iconst (v := iI 0) hx hb dX5_readBox_20 (by decide +kernel) ?_
      exact RET 0 _ _ _ _ _ ⟨hI, fk.trans (fk.trans (fk.rf) hf4 rfl rfl) hf9 rfl rfl, ⟨by decide, by decide⟩⟩ hP hS dX5_readBox_21

def ws_kc_X5_readDoor : List Cond := .code yX5_readDoor cX5_readDoor 6 (some .boolean) :: WY
set_option maxHeartbeats 4000000 in
set_option maxRecDepth 100000 in
theorem kc_X5_readDoor (l : Launch) (dC : Nat → ClassId) (dI : Nat → Nat → Nat) (cB cI cJ cZ cQ : ClassId) (aL aS : Nat) (q : Nat → Nat) (A : St) (ta : Nat) (hI : IK A) (hta : isT ta) : KMi l yX5_readDoor ws_kc_X5_readDoor ({ frames := 4, cells := 0, slots := 0, locals := 89 } : Room) aL aS (dC, dI) (tyA cB cI cJ cZ cQ) (WK cB cI cJ cZ cQ q) A [.ref (q 3), .ref (q ta)] (fun z u => IK u ∧ fk [52, 54, 55, 56, 57, 58, 59, 60, 61, 83, 85, 86, 87, 88, 89, 90, 91, 92] [(3, 2), (3, 3), (5, 1), (5, 2), (5, 3), (5, 4), (5, 5), (5, 6)] A u ∧ (0 ≤ z ∧ z ≤ 1)) := by
  refine k_metz (cc := cX5_readDoor) (maxL := 6) WK_adr (plainFor_of_name (by decide +kernel)) rfl (Nat.le_of_ble_eq_true rfl) (fun z u h => h.2.2) (fun p e s m below meth c Q AS ls hx hb hml hown hts hK hDD hA0 hE RET H locs hP hS hl => ?_)
  have hown : s.vm.findClass RX5 = some m.cls := hown
  have hl : lv_has ls 6 [(0, .ref (q 3)), (1, .ref (q ta))] := hl
  refine lv_aload_n hx hb dX5_readDoor_0 rfl (lv_at hl 0 rfl) ?_
  refine lv_aload_n hx hb dX5_readDoor_1 rfl (lv_at hl 1 rfl) ?_
  refine k_calli (As := [.ref (q ta)]) (rest := []) ⟨hx, hb, hml, hown, hts⟩ hE (kc_X5_newName l dC dI cB cI cJ cZ cQ aL aS q _ ta hI hta) (cwV 1 hts (goodVk (wk_in_5 _ (List.mem_of_getElem? (i := 45) rfl)) (wk_in_5 _ (List.mem_of_getElem? (i := 46) rfl)) (wk_in_5 _ (List.mem_of_getElem? (i := 47) rfl)) (wk_in_5 _ (List.mem_of_getElem? (i := 28) rfl)) (wk_in_5 _ (List.mem_of_getElem? (i := 48) rfl))) rfl rfl rfl (by decide +kernel) ⟨Nat.le_of_ble_eq_true rfl, Nat.le_of_ble_eq_true rfl⟩) hK hDD hA0 hP hS 3 5 (wkRD) rfl rfl hl.1 (Nat.le_of_ble_eq_true rfl) dX5_readDoor_2 (fun z1 A2 H locs hw3 hP hS => ?_)
  obtain ⟨hI, hf4, hw3⟩ := hw3
  refine lv_istore_n (lv' := [(2, .int (iI z1)), (0, .ref (q 3)), (1, .ref (q ta))]) hx hb dX5_readDoor_5 rfl hl (by decide) rfl (fun ls hl => ?_)
  refine lv_iload_n hx hb dX5_readDoor_6 rfl (lv_at hl 0 rfl) ?_
  refine lv_iconst (v := iI (-1)) hx hb dX5_readDoor_7 (by decide +kernel) ?_
  have J21_6 : ∀ (z11 : Int) (A13 : St) (H : Heap) (locs : List Loc) (ls : Array Slot), (-1 ≤ z11 ∧ z11 ≤ 7) → IK A13 → fk [] [(3, 2), (3, 3), (5, 1), (5, 2), (5, 3), (5, 4), (5, 5), (5, 6)] A2 A13 → va_P (dC, dI) vwCl (WK cB cI cJ cZ cQ q A13) H → va_S AS s.heap H locs → lv_has ls 6 [(2, .int (iI z1)), (0, .ref (q 3)), (1, .ref (q ta))] → W p l e (headSpec ws_kc_X5_readDoor ({ frames := 4, cells := 0, slots := 0, locals := 89 } : Room)).room s m [.ref (q 3), .ref (q ta)].toArray below meth c H locs 0 0 Q (F0 m 21 ls [.int (iI z11)]) := by
    intro z11 A13 H locs ls f14 hI hj12 hP hS hl
    refine lv_istore_n (lv' := [(3, .int (iI z11)), (2, .int (iI z1)), (0, .ref (q 3)), (1, .ref (q ta))]) hx hb dX5_readDoor_21 rfl hl (by decide) rfl (fun ls hl => ?_)
    refine lv_iload_n hx hb dX5_readDoor_22 rfl (lv_at hl 0 rfl) ?_
    refine lv_iconst (v := iI (-1)) hx hb dX5_readDoor_23 (by decide +kernel) ?_
    have J37_16 : ∀ (z21 : Int) (A23 : St) (H : Heap) (locs : List Loc) (ls : Array Slot), (-1 ≤ z21 ∧ z21 ≤ 7) → IK A23 → fk [] [(3, 2), (3, 3), (5, 1), (5, 2), (5, 3), (5, 4), (5, 5), (5, 6)] A13 A23 → va_P (dC, dI) vwCl (WK cB cI cJ cZ cQ q A23) H → va_S AS s.heap H locs → lv_has ls 6 [(3, .int (iI z11)), (2, .int (iI z1)), (0, .ref (q 3)), (1, .ref (q ta))] → W p l e (headSpec ws_kc_X5_readDoor ({ frames := 4, cells := 0, slots := 0, locals := 89 } : Room)).room s m [.ref (q 3), .ref (q ta)].toArray below meth c H locs 0 0 Q (F0 m 37 ls [.int (iI z21)]) := by
      intro z21 A23 H locs ls f24 hI hj22 hP hS hl
      refine lv_istore (lv' := [(4, .int (iI z21)), (3, .int (iI z11)), (2, .int (iI z1)), (0, .ref (q 3)), (1, .ref (q ta))]) hx hb dX5_readDoor_37 hl (by decide) rfl (fun ls hl => ?_)
      refine lv_iload hx hb dX5_readDoor_39 (lv_at hl 0 rfl) ?_
      refine lv_iconst (v := iI (-1)) hx hb dX5_readDoor_41 (by decide +kernel) ?_
      refine lv_icmp_ne (tgt := 47) hx hb dX5_readDoor_42 (by decide) (fun c25 => ?_) (fun c25 => ?_)
      · have c25 : ¬ z21 = (-1) := mt (i_eq (rb f24 (by decide) (by decide)) ⟨by decide, by decide⟩).mpr c25
        refine lv_iload hx hb dX5_readDoor_47 (lv_at hl 0 rfl) ?_
        refine lv_iload_n hx hb dX5_readDoor_49 rfl (lv_at hl 1 rfl) ?_
        refine lv_icmp_ne (tgt := 59) hx hb dX5_readDoor_50 (by decide) (fun c26 => ?_) (fun c26 => ?_)
        · have c26 : ¬ z21 = z11 := mt (i_eq (rb f24 (by decide) (by decide)) (rb f14 (by decide) (by decide))).mpr c26
          refine lv_aload_n hx hb dX5_readDoor_59 rfl (lv_at hl 3 rfl) ?_
          refine lv_iconst (v := iI 1) hx hb dX5_readDoor_60 (by decide +kernel) ?_
          refine lv_bipush (v := iI 99) hx hb dX5_readDoor_61 (by decide +kernel) ?_
          refine k_calli (As := [.int (iI 1), .int (iI 99)]) (rest := []) ⟨hx, hb, hml, hown, hts⟩ hE (kc_X5_number l dC dI cB cI cJ cZ cQ aL aS q _ 1 99 hI ⟨by decide, by decide⟩ ⟨by decide, by decide⟩) (cwV 2 hts (goodVk (wk_in_6 _ (List.mem_of_getElem? (i := 10) rfl)) (wk_in_6 _ (List.mem_of_getElem? (i := 11) rfl)) (wk_in_6 _ (List.mem_of_getElem? (i := 12) rfl)) (wk_in_5 _ (List.mem_of_getElem? (i := 28) rfl)) (wk_in_6 _ (List.mem_of_getElem? (i := 13) rfl))) rfl rfl rfl (by decide +kernel) ⟨Nat.le_of_ble_eq_true rfl, Nat.le_of_ble_eq_true rfl⟩) hK hDD hA0 hP hS 3 5 (wkRD) rfl rfl hl.1 (Nat.le_of_ble_eq_true rfl) dX5_readDoor_63 (fun z27 A28 H locs hw29 hP hS => ?_)
          obtain ⟨hI, hf30, hw29⟩ := hw29
          refine lv_istore (lv' := [(5, .int (iI z27)), (4, .int (iI z21)), (3, .int (iI z11)), (2, .int (iI z1)), (0, .ref (q 3)), (1, .ref (q ta))]) hx hb dX5_readDoor_66 hl (by decide) rfl (fun ls hl => ?_)
          refine lv_iload hx hb dX5_readDoor_68 (lv_at hl 0 rfl) ?_
          refine lv_iconst (v := iI (-1)) hx hb dX5_readDoor_70 (by decide +kernel) ?_
          refine lv_icmp_eq (tgt := 91) hx hb dX5_readDoor_71 (by decide) (fun c31 => ?_) (fun c31 => ?_)
          · have c31 : z27 = (-1) := (i_eq hw29 ⟨by decide, by decide⟩).mp c31
            refine lv_iconst (v := iI 0) hx hb dX5_readDoor_91 (by decide +kernel) ?_
            exact RET 0 _ _ _ _ _ ⟨hI, fk.trans (fk.trans (fk.trans (fk.trans (fk.rf) hf4 rfl rfl) hj12 rfl rfl) hj22 rfl rfl) hf30 rfl rfl, ⟨by decide, by decide⟩⟩ hP hS dX5_readDoor_92
          · have c31 : ¬ z27 = (-1) := mt (i_eq hw29 ⟨by decide, by decide⟩).mpr c31
            refine lv_aload_n hx hb dX5_readDoor_74 rfl (lv_at hl 5 rfl) ?_
            refine lv_iload_n hx hb dX5_readDoor_75 rfl (lv_at hl 3 rfl) ?_
            refine lv_iload_n hx hb dX5_readDoor_76 rfl (lv_at hl 2 rfl) ?_
            refine lv_iload hx hb dX5_readDoor_77 (lv_at hl 1 rfl) ?_
            refine lv_iload hx hb dX5_readDoor_79 (lv_at hl 0 rfl) ?_
            refine k_calli (As := [.int (iI z1), .int (iI z11), .int (iI z21), .int (iI z27)]) (rest := []) ⟨hx, hb, hml, hown, hts⟩ hE (kc_X9_addDoor l dC dI cB cI cJ cZ cQ aL aS q _ ta z1 z11 z21 z27 hI hta hw3 (rb f14 (by decide) (by decide)) (rb f24 (by decide) (by decide)) hw29) (cwV 4 hts (goodVk (wk_in_6 _ (List.mem_of_getElem? (i := 14) rfl)) (wk_in_6 _ (List.mem_of_getElem? (i := 15) rfl)) (wk_in_6 _ (List.mem_of_getElem? (i := 16) rfl)) (wk_in_0 _ (List.mem_of_getElem? (i := 6) rfl)) (wk_in_6 _ (List.mem_of_getElem? (i := 17) rfl))) rfl rfl rfl (by decide +kernel) ⟨Nat.le_of_ble_eq_true rfl, Nat.le_of_ble_eq_true rfl⟩) hK hDD hA0 hP hS ta 9 (wkT hta) rfl rfl hl.1 (Nat.le_of_ble_eq_true rfl) dX5_readDoor_81 (fun z32 A33 H locs hw34 hP hS => ?_)
            obtain ⟨hI, hf35, hw34⟩ := hw34
            refine lv_if_eq (tgt := 91) hx hb dX5_readDoor_84 (by decide) (fun c36 => ?_) (fun c36 => ?_)
            · have c36 : z32 = 0 := (i_eq0 (rb hw34 (by decide) (by decide))).mp c36
              refine lv_iconst (v := iI 0) hx hb dX5_readDoor_91 (by decide +kernel) ?_
              exact RET 0 _ _ _ _ _ ⟨hI, fk.trans (fk.trans (fk.trans (fk.trans (fk.trans (fk.rf) hf4 rfl rfl) hj12 rfl rfl) hj22 rfl rfl) hf30 rfl rfl) hf35 rfl rfl, ⟨by decide, by decide⟩⟩ hP hS dX5_readDoor_92
            · have c36 : ¬ z32 = 0 := mt (i_eq0 (rb hw34 (by decide) (by decide))).mpr c36
              refine lv_iconst (v := iI 1) hx hb dX5_readDoor_87 (by decide +kernel) ?_
              refine lv_goto (tgt := 92) hx hb dX5_readDoor_88 (by decide) ?_
              exact RET 1 _ _ _ _ _ ⟨hI, fk.trans (fk.trans (fk.trans (fk.trans (fk.trans (fk.rf) hf4 rfl rfl) hj12 rfl rfl) hj22 rfl rfl) hf30 rfl rfl) hf35 rfl rfl, ⟨by decide, by decide⟩⟩ hP hS dX5_readDoor_92
        · have c26 : z21 = z11 := (i_eq (rb f24 (by decide) (by decide)) (rb f14 (by decide) (by decide))).mp c26
          refine lv_aload_n hx hb dX5_readDoor_53 rfl (lv_at hl 3 rfl) ?_
          refine lv_iconst (v := iI 3) hx hb dX5_readDoor_54 (by decide +kernel) ?_
          refine k_calli (As := [.int (iI 3)]) (rest := []) ⟨hx, hb, hml, hown, hts⟩ hE (kc_X5_bad l dC dI cB cI cJ cZ cQ aL aS q _ 3 hI ⟨by decide, by decide⟩) (cwV 1 hts (goodVk (wk_in_5 _ (List.mem_of_getElem? (i := 37) rfl)) (wk_in_5 _ (List.mem_of_getElem? (i := 38) rfl)) (wk_in_5 _ (List.mem_of_getElem? (i := 39) rfl)) (wk_in_5 _ (List.mem_of_getElem? (i := 28) rfl)) (wk_in_5 _ (List.mem_of_getElem? (i := 40) rfl))) rfl rfl rfl (by decide +kernel) ⟨Nat.le_of_ble_eq_true rfl, Nat.le_of_ble_eq_true rfl⟩) hK hDD hA0 hP hS 3 5 (wkRD) rfl rfl hl.1 (Nat.le_of_ble_eq_true rfl) dX5_readDoor_55 (fun z37 A38 H locs hw39 hP hS => ?_)
          obtain ⟨hI, hf40, hw39⟩ := hw39
          have rz37 : 0 ≤ z37 ∧ z37 ≤ 1 := hw39.1
          have hw39 := hw39.2
          exact RET z37 _ _ _ _ _ ⟨hI, fk.trans (fk.trans (fk.trans (fk.trans (fk.rf) hf4 rfl rfl) hj12 rfl rfl) hj22 rfl rfl) hf40 rfl rfl, rz37⟩ hP hS dX5_readDoor_58
      · have c25 : z21 = (-1) := (i_eq (rb f24 (by decide) (by decide)) ⟨by decide, by decide⟩).mp c25
        refine lv_iconst (v := iI 0) hx hb dX5_readDoor_45 (by decide +kernel) ?_
        exact RET 0 _ _ _ _ _ ⟨hI, fk.trans (fk.trans (fk.trans (fk.rf) hf4 rfl rfl) hj12 rfl rfl) hj22 rfl rfl, ⟨by decide, by decide⟩⟩ hP hS dX5_readDoor_46
    refine lv_icmp_ne (tgt := 31) hx hb dX5_readDoor_24 (by decide) (fun c15 => ?_) (fun c15 => ?_)
    · have c15 : ¬ z11 = (-1) := mt (i_eq (rb f14 (by decide) (by decide)) ⟨by decide, by decide⟩).mpr c15
      refine lv_aload_n hx hb dX5_readDoor_31 rfl (lv_at hl 2 rfl) ?_
      refine lv_aload_n hx hb dX5_readDoor_32 rfl (lv_at hl 3 rfl) ?_
      refine lv_iconst (v := iI 0) hx hb dX5_readDoor_33 (by decide +kernel) ?_
      refine k_calli (As := [.ref (q ta), .int (iI 0)]) (rest := []) ⟨hx, hb, hml, hown, hts⟩ hE (kc_X5_asked_2_0 l dC dI cB cI cJ cZ cQ aL aS q _ ta hI hta) (cwV 2 hts (goodVk (wk_in_6 _ (List.mem_of_getElem? (i := 6) rfl)) (wk_in_6 _ (List.mem_of_getElem? (i := 7) rfl)) (wk_in_6 _ (List.mem_of_getElem? (i := 8) rfl)) (wk_in_5 _ (List.mem_of_getElem? (i := 28) rfl)) (wk_in_6 _ (List.mem_of_getElem? (i := 9) rfl))) rfl rfl rfl (by decide +kernel) ⟨Nat.le_of_ble_eq_true rfl, Nat.le_of_ble_eq_true rfl⟩) hK hDD hA0 hP hS 3 5 (wkRD) rfl rfl hl.1 (Nat.le_of_ble_eq_true rfl) dX5_readDoor_34 (fun z17 A18 H locs hw19 hP hS => ?_)
      obtain ⟨hI, hf20, hw19⟩ := hw19
      exact J37_16 z17 _ _ _ _ (by omega) hI (fk.trans (fk.rf) hf20 rfl rfl) hP hS (lv_sub hl [0, 1, 2, 3] rfl)
    · have c15 : z11 = (-1) := (i_eq (rb f14 (by decide) (by decide)) ⟨by decide, by decide⟩).mp c15
      refine lv_iconst (v := iI (-1)) hx hb dX5_readDoor_27 (by decide +kernel) ?_
      refine lv_goto (tgt := 37) hx hb dX5_readDoor_28 (by decide) ?_
      exact J37_16 (-1) _ _ _ _ (by omega) hI (fk.rf) hP hS (lv_sub hl [0, 1, 2, 3] rfl)
  refine lv_icmp_ne (tgt := 15) hx hb dX5_readDoor_8 (by decide) (fun c5 => ?_) (fun c5 => ?_)
  · have c5 : ¬ z1 = (-1) := mt (i_eq hw3 ⟨by decide, by decide⟩).mpr c5
    refine lv_aload_n hx hb dX5_readDoor_15 rfl (lv_at hl 1 rfl) ?_
    refine lv_aload_n hx hb dX5_readDoor_16 rfl (lv_at hl 2 rfl) ?_
    refine lv_iconst (v := iI 0) hx hb dX5_readDoor_17 (by decide +kernel) ?_
    refine k_calli (As := [.ref (q ta), .int (iI 0)]) (rest := []) ⟨hx, hb, hml, hown, hts⟩ hE (kc_X5_asked_2_0 l dC dI cB cI cJ cZ cQ aL aS q _ ta hI hta) (cwV 2 hts (goodVk (wk_in_6 _ (List.mem_of_getElem? (i := 6) rfl)) (wk_in_6 _ (List.mem_of_getElem? (i := 7) rfl)) (wk_in_6 _ (List.mem_of_getElem? (i := 8) rfl)) (wk_in_5 _ (List.mem_of_getElem? (i := 28) rfl)) (wk_in_6 _ (List.mem_of_getElem? (i := 9) rfl))) rfl rfl rfl (by decide +kernel) ⟨Nat.le_of_ble_eq_true rfl, Nat.le_of_ble_eq_true rfl⟩) hK hDD hA0 hP hS 3 5 (wkRD) rfl rfl hl.1 (Nat.le_of_ble_eq_true rfl) dX5_readDoor_18 (fun z7 A8 H locs hw9 hP hS => ?_)
    obtain ⟨hI, hf10, hw9⟩ := hw9
    exact J21_6 z7 _ _ _ _ (by omega) hI (fk.trans (fk.rf) hf10 rfl rfl) hP hS (lv_sub hl [0, 1, 2] rfl)
  · have c5 : z1 = (-1) := (i_eq hw3 ⟨by decide, by decide⟩).mp c5
    refine lv_iconst (v := iI (-1)) hx hb dX5_readDoor_11 (by decide +kernel) ?_
    refine lv_goto (tgt := 21) hx hb dX5_readDoor_12 (by decide) ?_
    exact J21_6 (-1) _ _ _ _ (by omega) hI (fk.rf) hP hS (lv_sub hl [0, 1, 2] rfl)

def ws_kc_X5_readTown : List Cond := .code yX5_readTown cX5_readTown 4 (some .int) :: WY
set_option maxHeartbeats 4000000 in
set_option maxRecDepth 100000 in
theorem kc_X5_readTown (l : Launch) (dC : Nat → ClassId) (dI : Nat → Nat → Nat) (cB cI cJ cZ cQ : ClassId) (aL aS : Nat) (q : Nat → Nat) (A : St) (ta : Nat) (hI : IK A) (hta : isT ta) : KMi l yX5_readTown ws_kc_X5_readTown ({ frames := 104, cells := 0, slots := 0, locals := 3925 } : Room) aL aS (dC, dI) (tyA cB cI cJ cZ cQ) (WK cB cI cJ cZ cQ q) A [.ref (q 3), .ref (q ta)] (fun z u => IK u ∧ fk [33, 34, 35, 37, 38, 39, 40, 42, 43, 44, 46, 47, 48, 49, 52, 54, 55, 56, 57, 58, 59, 60, 61, 62, 63, 64, 65, 66, 67, 68, 69, 71, 74, 75, 76, 78, 79, 80, 81, 83, 85, 86, 87, 88, 89, 90, 91, 92, 93, 94, 95, 96, 97, 98, 99, 100, 102, 105, 106, 107, 109, 110, 111, 112] [(3, 2), (3, 3), (3, 4), (5, 1), (5, 2), (5, 3), (5, 4), (5, 5), (5, 6), (51, 15), (70, 2), (82, 15), (101, 2)] A u ∧ (-2147483648 ≤ z ∧ z ≤ 2147483647)) := by
  refine k_meti (cc := cX5_readTown) (maxL := 4) WK_adr (plainFor_of_name (by decide +kernel)) rfl (Nat.le_of_ble_eq_true rfl) (fun p e s m below meth c Q AS ls hx hb hml hown hts hK hDD hA0 hE RET H locs hP hS hl => ?_)
  have hown : s.vm.findClass RX5 = some m.cls := hown
  have hl : lv_has ls 4 [(0, .ref (q 3)), (1, .ref (q ta))] := hl
  have hiX5 : ∀ w ∈ u_ws RX5 TX5 5, w ∈ ws_kc_X5_readTown := fun w h => List.mem_cons_of_mem _ (wy_layX5 w h)
  have hiX3 : ∀ w ∈ u_ws RX3 TX3 7, w ∈ ws_kc_X5_readTown := fun w h => List.mem_cons_of_mem _ (wy_layX3 w h)
  refine lv_aload_n hx hb dX5_readTown_0 rfl (lv_at hl 1 rfl) ?_
  refine k_callv (As := []) (rest := []) ⟨hx, hb, hml, hown, hts⟩ hE (kc_X9_clear l dC dI cB cI cJ cZ cQ aL aS q _ ta hI hta) (cwV 0 hts (goodVk (wk_in_5 _ (List.mem_of_getElem? (i := 10) rfl)) (wk_in_5 _ (List.mem_of_getElem? (i := 11) rfl)) (wk_in_5 _ (List.mem_of_getElem? (i := 12) rfl)) (wk_in_0 _ (List.mem_of_getElem? (i := 6) rfl)) (wk_in_5 _ (List.mem_of_getElem? (i := 13) rfl))) rfl rfl rfl (by decide +kernel) ⟨Nat.le_of_ble_eq_true rfl, Nat.le_of_ble_eq_true rfl⟩) hK hDD hA0 hP hS ta 9 (wkT hta) rfl rfl hl.1 (Nat.le_of_ble_eq_true rfl) dX5_readTown_1 (fun A1 H locs hw2 hP hS => ?_)
  obtain ⟨hI, hf3, hw2⟩ := hw2
  clear hw2
  refine lv_aload_n hx hb dX5_readTown_4 rfl (lv_at hl 0 rfl) ?_
  refine va_get (D := (dC, dI)) (ci := 5) (v := .ref (q 5)) (C := RX5) (T := TX5) (N := 5) hx hb hts hiX5 hown hK hP 3 (wkRD) rfl 0 (by decide) (hts _ (List.mem_cons_of_mem _ (wk_in_5 _ (List.mem_of_getElem? (i := 6) rfl)))) (fun _ h9 => h9) rfl dX5_readTown_5 ?_
  refine k_callv (As := []) (rest := []) ⟨hx, hb, hml, hown, hts⟩ hE (kc_X3_begin l dC dI cB cI cJ cZ cQ aL aS q _ hI) (cwV 0 hts (goodVk (wk_in_5 _ (List.mem_of_getElem? (i := 19) rfl)) (wk_in_5 _ (List.mem_of_getElem? (i := 20) rfl)) (wk_in_5 _ (List.mem_of_getElem? (i := 21) rfl)) (wk_in_4 _ (List.mem_of_getElem? (i := 10) rfl)) (wk_in_3 _ (List.mem_of_getElem? (i := 54) rfl))) rfl rfl rfl (by decide +kernel) ⟨Nat.le_of_ble_eq_true rfl, Nat.le_of_ble_eq_true rfl⟩) hK hDD hA0 hP hS 5 3 (wkLX) rfl rfl hl.1 (Nat.le_of_ble_eq_true rfl) dX5_readTown_8 (fun A4 H locs hw5 hP hS => ?_)
  obtain ⟨hI, hf6, hw5⟩ := hw5
  clear hw5
  refine lv_aload_n hx hb dX5_readTown_11 rfl (lv_at hl 0 rfl) ?_
  refine lv_iconst (v := iI 0) hx hb dX5_readTown_12 (by decide +kernel) ?_
  refine k_put (Wf := WK cB cI cJ cZ cQ q) (D := (dC, dI)) (ci := 5) (v := .int (iI 0)) (ty := .int) (C := RX5) (T := TX5) (N := 5) hx hb hts hiX5 tyX5 tyX5_ok nmX5 hown hK hP hDD hS 3 (wkRD) rfl 2 (by decide) (hts _ (List.mem_cons_of_mem _ (wk_in_5 _ (List.mem_of_getElem? (i := 7) rfl)))) (fun _ h9 => h9) rfl (by decide +kernel) rfl rfl (Nat.le_of_ble_eq_true rfl) dX5_readTown_13 (wfRD_2 (v := 0)) (fun H locs A7 hA7 hP hS => ?_)
  have hI := isRD_2 hA7 hI (show (0 : Int) ≤ 0 ∧ 0 ≤ 5 from ⟨by decide, by decide⟩)
  refine lv_aload_n hx hb dX5_readTown_16 rfl (lv_at hl 0 rfl) ?_
  refine lv_iconst (v := iI (-1)) hx hb dX5_readTown_17 (by decide +kernel) ?_
  refine k_put (Wf := WK cB cI cJ cZ cQ q) (D := (dC, dI)) (ci := 5) (v := .int (iI (-1))) (ty := .int) (C := RX5) (T := TX5) (N := 5) hx hb hts hiX5 tyX5 tyX5_ok nmX5 hown hK hP hDD hS 3 (wkRD) rfl 3 (by decide) (hts _ (List.mem_cons_of_mem _ (wk_in_5 _ (List.mem_of_getElem? (i := 8) rfl)))) (fun _ h9 => h9) rfl (by decide +kernel) rfl rfl (Nat.le_of_ble_eq_true rfl) dX5_readTown_18 (wfRD_3 (v := (-1))) (fun H locs A8 hA8 hP hS => ?_)
  have hI := isRD_3 hA8 hI (show (-1 : Int) ≤ (-1) ∧ (-1) ≤ 1600 from ⟨by decide, by decide⟩)
  refine lv_iconst (v := iI 0) hx hb dX5_readTown_21 (by decide +kernel) ?_
  refine lv_istore_n (lv' := [(2, .int (iI 0)), (0, .ref (q 3)), (1, .ref (q ta))]) hx hb dX5_readTown_22 rfl hl (by decide) rfl (fun ls hl => ?_)
  have L23_12 : ∀ (n15 : Nat) (z9 : Int) (A11 : St) (H : Heap) (locs : List Loc) (ls : Array Slot), (0 ≤ z9 ∧ z9 ≤ 2147483647) → ((1601 - z9).toNat = n15) → IK A11 → fk [33, 34, 35, 37, 38, 39, 40, 42, 43, 44, 46, 47, 48, 49, 52, 54, 55, 56, 57, 58, 59, 60, 61, 62, 63, 64, 65, 66, 67, 68, 69, 71, 74, 75, 76, 78, 79, 80, 81, 83, 85, 86, 87, 88, 89, 90, 91, 92, 93, 94, 95, 96, 97, 98, 99, 100, 102, 105, 106, 107, 109, 110, 111, 112] [(3, 2), (3, 3), (3, 4), (5, 1), (5, 2), (5, 3), (5, 4), (5, 5), (5, 6), (51, 15), (70, 2), (82, 15), (101, 2)] A8 A11 → va_P (dC, dI) vwCl (WK cB cI cJ cZ cQ q A11) H → va_S AS s.heap H locs → lv_has ls 4 [(2, .int (iI z9)), (0, .ref (q 3)), (1, .ref (q ta))] → W p l e (headSpec ws_kc_X5_readTown ({ frames := 104, cells := 0, slots := 0, locals := 3925 } : Room)).room s m [.ref (q 3), .ref (q ta)].toArray below meth c H locs 0 0 Q (F0 m 23 ls []) := by
    intro n15
    induction n15 using Nat.strongRecOn with
    | ind n15 ih13 =>
      intro z9 A11 H locs ls f14 hn15 hI hj10 hP hS hl
      refine lv_iload_n hx hb dX5_readTown_23 rfl (lv_at hl 0 rfl) ?_
      refine lv_sipush (v := iI 1600) hx hb dX5_readTown_24 (by decide +kernel) ?_
      refine lv_icmp_gt (tgt := 252) hx hb dX5_readTown_27 (by decide) (fun c16 => ?_) (fun c16 => ?_)
      · have c16 : 1600 < z9 := (i_lt ⟨by decide, by decide⟩ (rb f14 (by decide) (by decide))).mp c16
        refine lv_iconst (v := iI (-1)) hx hb dX5_readTown_252 (by decide +kernel) ?_
        exact RET (-1) _ _ _ _ _ ⟨hI, fk.trans (fk.df (fk.df (fk.trans (fk.trans (fk.rf) hf3 rfl rfl) hf6 rfl rfl) hA7 rfl) hA8 rfl) hj10 rfl rfl, ⟨by decide, by decide⟩⟩ hP hS dX5_readTown_253
      · have c16 : ¬ 1600 < z9 := mt (i_lt ⟨by decide, by decide⟩ (rb f14 (by decide) (by decide))).mpr c16
        refine lv_aload_n hx hb dX5_readTown_30 rfl (lv_at hl 1 rfl) ?_
        refine va_get (D := (dC, dI)) (ci := 5) (v := .ref (q 5)) (C := RX5) (T := TX5) (N := 5) hx hb hts hiX5 hown hK hP 3 (wkRD) rfl 0 (by decide) (hts _ (List.mem_cons_of_mem _ (wk_in_5 _ (List.mem_of_getElem? (i := 6) rfl)))) (fun _ h9 => h9) rfl dX5_readTown_31 ?_
        refine k_callv (As := []) (rest := []) ⟨hx, hb, hml, hown, hts⟩ hE (kc_X3_look l dC dI cB cI cJ cZ cQ aL aS q _ hI) (cwV 0 hts (goodVk (wk_in_5 _ (List.mem_of_getElem? (i := 22) rfl)) (wk_in_5 _ (List.mem_of_getElem? (i := 23) rfl)) (wk_in_5 _ (List.mem_of_getElem? (i := 24) rfl)) (wk_in_4 _ (List.mem_of_getElem? (i := 10) rfl)) (wk_in_4 _ (List.mem_of_getElem? (i := 2) rfl))) rfl rfl rfl (by decide +kernel) ⟨Nat.le_of_ble_eq_true rfl, Nat.le_of_ble_eq_true rfl⟩) hK hDD hA0 hP hS 5 3 (wkLX) rfl rfl hl.1 (Nat.le_of_ble_eq_true rfl) dX5_readTown_34 (fun A17 H locs hw18 hP hS => ?_)
        obtain ⟨hI, hf19, hw18⟩ := hw18
        clear hw18
        refine lv_aload_n hx hb dX5_readTown_37 rfl (lv_at hl 1 rfl) ?_
        refine va_get (D := (dC, dI)) (ci := 5) (v := .ref (q 5)) (C := RX5) (T := TX5) (N := 5) hx hb hts hiX5 hown hK hP 3 (wkRD) rfl 0 (by decide) (hts _ (List.mem_cons_of_mem _ (wk_in_5 _ (List.mem_of_getElem? (i := 6) rfl)))) (fun _ h9 => h9) rfl dX5_readTown_38 ?_
        have r20 : (0 : Int) ≤ (A17 5 2) ∧ (A17 5 2) ≤ 4 := irLX_2 hI
        refine va_get (D := (dC, dI)) (ci := 3) (v := .int (iI (A17 5 2))) (C := RX3) (T := TX3) (N := 7) hx hb hts hiX3 hown hK hP 5 (wkLX) rfl 2 (by decide) (hts _ (List.mem_cons_of_mem _ (wk_in_5 _ (List.mem_of_getElem? (i := 9) rfl)))) (fun _ h9 => h9) rfl dX5_readTown_41 ?_
        refine lv_if_ne (tgt := 49) hx hb dX5_readTown_44 (by decide) (fun c21 => ?_) (fun c21 => ?_)
        · have c21 : ¬ (A17 5 2) = 0 := mt (i_eq0 (rb r20 (by decide) (by decide))).mpr c21
          refine lv_aload_n hx hb dX5_readTown_49 rfl (lv_at hl 1 rfl) ?_
          refine lv_aload_n hx hb dX5_readTown_50 rfl (lv_at hl 2 rfl) ?_
          refine k_calli (As := [.ref (q ta)]) (rest := []) ⟨hx, hb, hml, hown, hts⟩ hE (kc_X5_statementWord l dC dI cB cI cJ cZ cQ aL aS q _ ta hI hta) (cwV 1 hts (goodVk (wk_in_5 _ (List.mem_of_getElem? (i := 25) rfl)) (wk_in_5 _ (List.mem_of_getElem? (i := 26) rfl)) (wk_in_5 _ (List.mem_of_getElem? (i := 27) rfl)) (wk_in_5 _ (List.mem_of_getElem? (i := 28) rfl)) (wk_in_5 _ (List.mem_of_getElem? (i := 29) rfl))) rfl rfl rfl (by decide +kernel) ⟨Nat.le_of_ble_eq_true rfl, Nat.le_of_ble_eq_true rfl⟩) hK hDD hA0 hP hS 3 5 (wkRD) rfl rfl hl.1 (Nat.le_of_ble_eq_true rfl) dX5_readTown_51 (fun z22 A23 H locs hw24 hP hS => ?_)
          obtain ⟨hI, hf25, hw24⟩ := hw24
          have J231_27 : ∀ (z83 : Int) (A85 : St) (H : Heap) (locs : List Loc) (ls : Array Slot), (0 ≤ z83 ∧ z83 ≤ 1) → IK A85 → fk [33, 34, 35, 37, 38, 39, 40, 42, 43, 44, 46, 47, 48, 49, 52, 54, 55, 56, 57, 58, 59, 60, 61, 62, 63, 64, 65, 66, 67, 68, 69, 71, 74, 75, 76, 78, 79, 80, 81, 83, 85, 86, 87, 88, 89, 90, 91, 92, 93, 94, 95, 96, 97, 98, 99, 100, 102, 105, 106, 107, 109, 110, 111, 112] [(3, 2), (3, 3), (3, 4), (5, 1), (5, 2), (5, 3), (5, 4), (5, 5), (5, 6), (51, 15), (70, 2), (82, 15), (101, 2)] A23 A85 → va_P (dC, dI) vwCl (WK cB cI cJ cZ cQ q A85) H → va_S AS s.heap H locs → lv_has ls 4 [(3, .int (iI z83)), (2, .int (iI z9)), (0, .ref (q 3)), (1, .ref (q ta))] → W p l e (headSpec ws_kc_X5_readTown ({ frames := 104, cells := 0, slots := 0, locals := 3925 } : Room)).room s m [.ref (q 3), .ref (q ta)].toArray below meth c H locs 0 0 Q (F0 m 231 ls []) := by
            intro z83 A85 H locs ls f86 hI hj84 hP hS hl
            refine lv_iload_n hx hb dX5_readTown_231 rfl (lv_at hl 0 rfl) ?_
            refine lv_if_eq (tgt := 244) hx hb dX5_readTown_232 (by decide) (fun c87 => ?_) (fun c87 => ?_)
            · have c87 : z83 = 0 := (i_eq0 (rb f86 (by decide) (by decide))).mp c87
              refine lv_iconst (v := iI (-1)) hx hb dX5_readTown_244 (by decide +kernel) ?_
              exact RET (-1) _ _ _ _ _ ⟨hI, fk.trans (fk.trans (fk.trans (fk.trans (fk.df (fk.df (fk.trans (fk.trans (fk.rf) hf3 rfl rfl) hf6 rfl rfl) hA7 rfl) hA8 rfl) hj10 rfl rfl) hf19 rfl rfl) hf25 rfl rfl) hj84 rfl rfl, ⟨by decide, by decide⟩⟩ hP hS dX5_readTown_245
            · have c87 : ¬ z83 = 0 := mt (i_eq0 (rb f86 (by decide) (by decide))).mpr c87
              refine lv_aload_n hx hb dX5_readTown_235 rfl (lv_at hl 2 rfl) ?_
              refine lv_bipush (v := iI 59) hx hb dX5_readTown_236 (by decide +kernel) ?_
              refine k_calli (As := [.int (iI 59)]) (rest := []) ⟨hx, hb, hml, hown, hts⟩ hE (kc_X5_sign l dC dI cB cI cJ cZ cQ aL aS q _ 59 hI ⟨by decide, by decide⟩) (cwV 1 hts (goodVk (wk_in_7 _ (List.mem_of_getElem? (i := 53) rfl)) (wk_in_7 _ (List.mem_of_getElem? (i := 54) rfl)) (wk_in_7 _ (List.mem_of_getElem? (i := 55) rfl)) (wk_in_5 _ (List.mem_of_getElem? (i := 28) rfl)) (wk_in_7 _ (List.mem_of_getElem? (i := 56) rfl))) rfl rfl rfl (by decide +kernel) ⟨Nat.le_of_ble_eq_true rfl, Nat.le_of_ble_eq_true rfl⟩) hK hDD hA0 hP hS 3 5 (wkRD) rfl rfl hl.1 (Nat.le_of_ble_eq_true rfl) dX5_readTown_238 (fun z88 A89 H locs hw90 hP hS => ?_)
              obtain ⟨hI, hf91, hw90⟩ := hw90
              refine lv_if_ne (tgt := 246) hx hb dX5_readTown_241 (by decide) (fun c92 => ?_) (fun c92 => ?_)
              · have c92 : ¬ z88 = 0 := mt (i_eq0 (rb hw90 (by decide) (by decide))).mpr c92
                refine lv_iinc (v := iI (z9 + 1)) (lv' := [(2, .int (iI (z9 + 1))), (3, .int (iI z83)), (0, .ref (q 3)), (1, .ref (q ta))]) hx hb dX5_readTown_246 hl (k := 1) rfl (i_inc (by omega)) (by decide) rfl (fun ls hl => ?_)
                refine lv_goto (tgt := 23) hx hb dX5_readTown_249 (by decide) ?_
                exact ih13 _ (by omega) (z9 + 1) _ _ _ _ (by omega) rfl hI (fk.trans (fk.trans (fk.trans (fk.trans (fk.trans (fk.rf) hj10 rfl rfl) hf19 rfl rfl) hf25 rfl rfl) hj84 rfl rfl) hf91 rfl rfl) hP hS (lv_sub hl [0, 2, 3] rfl)
              · have c92 : z88 = 0 := (i_eq0 (rb hw90 (by decide) (by decide))).mp c92
                refine lv_iconst (v := iI (-1)) hx hb dX5_readTown_244 (by decide +kernel) ?_
                exact RET (-1) _ _ _ _ _ ⟨hI, fk.trans (fk.trans (fk.trans (fk.trans (fk.trans (fk.df (fk.df (fk.trans (fk.trans (fk.rf) hf3 rfl rfl) hf6 rfl rfl) hA7 rfl) hA8 rfl) hj10 rfl rfl) hf19 rfl rfl) hf25 rfl rfl) hj84 rfl rfl) hf91 rfl rfl, ⟨by decide, by decide⟩⟩ hP hS dX5_readTown_245
          rcases (show (z22 < 0 ∨ 11 < z22) ∨ z22 = 0 ∨ z22 = 1 ∨ z22 = 2 ∨ z22 = 3 ∨ z22 = 4 ∨ z22 = 5 ∨ z22 = 6 ∨ z22 = 7 ∨ z22 = 8 ∨ z22 = 9 ∨ z22 = 10 ∨ z22 = 11 by omega) with c26 | c26 | c26 | c26 | c26 | c26 | c26 | c26 | c26 | c26 | c26 | c26 | c26
          · refine lv_tableOut (tgt := 229) hx hb dX5_readTown_54 (by rw [iI_toInt (by omega)]; exact c26) (by decide) ?_
            refine lv_iconst (v := iI 0) hx hb dX5_readTown_229 (by decide +kernel) ?_
            refine lv_istore_n (lv' := [(3, .int (iI 0)), (2, .int (iI z9)), (0, .ref (q 3)), (1, .ref (q ta))]) hx hb dX5_readTown_230 rfl hl (by decide) rfl (fun ls hl => ?_)
            exact J231_27 0 _ _ _ _ (by omega) hI (fk.rf) hP hS (lv_sub hl [0, 1, 2, 3] rfl)
          · refine tp_i (y := iI 0) (congrArg iI c26) ?_
            refine lv_tableIn (off := 62) (tgt := 116) hx hb dX5_readTown_54 (by decide +kernel) (by decide +kernel) (by decide +kernel) (by decide) ?_
            refine lv_aload_n hx hb dX5_readTown_116 rfl (lv_at hl 2 rfl) ?_
            refine lv_iconst (v := iI 0) hx hb dX5_readTown_117 (by decide +kernel) ?_
            refine lv_aload_n hx hb dX5_readTown_118 rfl (lv_at hl 1 rfl) ?_
            refine lv_aload_n hx hb dX5_readTown_119 rfl (lv_at hl 2 rfl) ?_
            refine k_calli (As := [.ref (q ta)]) (rest := [.int (iI 0), .ref (q ta)]) ⟨hx, hb, hml, hown, hts⟩ hE (kc_X5_newName l dC dI cB cI cJ cZ cQ aL aS q _ ta hI hta) (cwV 1 hts (goodVk (wk_in_5 _ (List.mem_of_getElem? (i := 45) rfl)) (wk_in_5 _ (List.mem_of_getElem? (i := 46) rfl)) (wk_in_5 _ (List.mem_of_getElem? (i := 47) rfl)) (wk_in_5 _ (List.mem_of_getElem? (i := 28) rfl)) (wk_in_5 _ (List.mem_of_getElem? (i := 48) rfl))) rfl rfl rfl (by decide +kernel) ⟨Nat.le_of_ble_eq_true rfl, Nat.le_of_ble_eq_true rfl⟩) hK hDD hA0 hP hS 3 5 (wkRD) rfl rfl hl.1 (Nat.le_of_ble_eq_true rfl) dX5_readTown_120 (fun z28 A29 H locs hw30 hP hS => ?_)
            obtain ⟨hI, hf31, hw30⟩ := hw30
            refine k_calli (As := [.int (iI 0), .int (iI z28)]) (rest := []) ⟨hx, hb, hml, hown, hts⟩ hE (kc_X9_add_1_0 l dC dI cB cI cJ cZ cQ aL aS q _ ta z28 hI hta hw30) (cwV 2 hts (goodVk (wk_in_5 _ (List.mem_of_getElem? (i := 58) rfl)) (wk_in_5 _ (List.mem_of_getElem? (i := 59) rfl)) (wk_in_6 _ (List.mem_of_getElem? (i := 0) rfl)) (wk_in_0 _ (List.mem_of_getElem? (i := 6) rfl)) (wk_in_6 _ (List.mem_of_getElem? (i := 1) rfl))) rfl rfl rfl (by decide +kernel) ⟨Nat.le_of_ble_eq_true rfl, Nat.le_of_ble_eq_true rfl⟩) hK hDD hA0 hP hS ta 9 (wkT hta) rfl rfl hl.1 (Nat.le_of_ble_eq_true rfl) dX5_readTown_123 (fun z32 A33 H locs hw34 hP hS => ?_)
            obtain ⟨hI, hf35, hw34⟩ := hw34
            have rz32 : 0 ≤ z32 ∧ z32 ≤ 1 := hw34.1
            have hw34 := hw34.2
            refine lv_istore_n (lv' := [(3, .int (iI z32)), (2, .int (iI z9)), (0, .ref (q 3)), (1, .ref (q ta))]) hx hb dX5_readTown_126 rfl hl (by decide) rfl (fun ls hl => ?_)
            refine lv_goto (tgt := 231) hx hb dX5_readTown_127 (by decide) ?_
            exact J231_27 z32 _ _ _ _ (by omega) hI (fk.trans (fk.trans (fk.rf) hf31 rfl rfl) hf35 rfl rfl) hP hS (lv_sub hl [0, 1, 2, 3] rfl)
          · refine tp_i (y := iI 1) (congrArg iI c26) ?_
            refine lv_tableIn (off := 76) (tgt := 130) hx hb dX5_readTown_54 (by decide +kernel) (by decide +kernel) (by decide +kernel) (by decide) ?_
            refine lv_aload_n hx hb dX5_readTown_130 rfl (lv_at hl 1 rfl) ?_
            refine lv_aload_n hx hb dX5_readTown_131 rfl (lv_at hl 2 rfl) ?_
            refine k_calli (As := [.ref (q ta)]) (rest := []) ⟨hx, hb, hml, hown, hts⟩ hE (kc_X5_readDoor l dC dI cB cI cJ cZ cQ aL aS q _ ta hI hta) (cwV 1 hts (goodVk (wk_in_6 _ (List.mem_of_getElem? (i := 2) rfl)) (wk_in_6 _ (List.mem_of_getElem? (i := 3) rfl)) (wk_in_6 _ (List.mem_of_getElem? (i := 4) rfl)) (wk_in_5 _ (List.mem_of_getElem? (i := 28) rfl)) (wk_in_6 _ (List.mem_of_getElem? (i := 5) rfl))) rfl rfl rfl (by decide +kernel) ⟨Nat.le_of_ble_eq_true rfl, Nat.le_of_ble_eq_true rfl⟩) hK hDD hA0 hP hS 3 5 (wkRD) rfl rfl hl.1 (Nat.le_of_ble_eq_true rfl) dX5_readTown_132 (fun z36 A37 H locs hw38 hP hS => ?_)
            obtain ⟨hI, hf39, hw38⟩ := hw38
            refine lv_istore_n (lv' := [(3, .int (iI z36)), (2, .int (iI z9)), (0, .ref (q 3)), (1, .ref (q ta))]) hx hb dX5_readTown_135 rfl hl (by decide) rfl (fun ls hl => ?_)
            refine lv_goto (tgt := 231) hx hb dX5_readTown_136 (by decide) ?_
            exact J231_27 z36 _ _ _ _ (by omega) hI (fk.trans (fk.rf) hf39 rfl rfl) hP hS (lv_sub hl [0, 1, 2, 3] rfl)
          · refine tp_i (y := iI 2) (congrArg iI c26) ?_
            refine lv_tableIn (off := 85) (tgt := 139) hx hb dX5_readTown_54 (by decide +kernel) (by decide +kernel) (by decide +kernel) (by decide) ?_
            refine lv_aload_n hx hb dX5_readTown_139 rfl (lv_at hl 1 rfl) ?_
            refine lv_aload_n hx hb dX5_readTown_140 rfl (lv_at hl 2 rfl) ?_
            refine k_calli (As := [.ref (q ta)]) (rest := []) ⟨hx, hb, hml, hown, hts⟩ hE (kc_X5_readBox l dC dI cB cI cJ cZ cQ aL aS q _ ta hI hta) (cwV 1 hts (goodVk (wk_in_6 _ (List.mem_of_getElem? (i := 19) rfl)) (wk_in_6 _ (List.mem_of_getElem? (i := 20) rfl)) (wk_in_6 _ (List.mem_of_getElem? (i := 21) rfl)) (wk_in_5 _ (List.mem_of_getElem? (i := 28) rfl)) (wk_in_6 _ (List.mem_of_getElem? (i := 22) rfl))) rfl rfl rfl (by decide +kernel) ⟨Nat.le_of_ble_eq_true rfl, Nat.le_of_ble_eq_true rfl⟩) hK hDD hA0 hP hS 3 5 (wkRD) rfl rfl hl.1 (Nat.le_of_ble_eq_true rfl) dX5_readTown_141 (fun z40 A41 H locs hw42 hP hS => ?_)
            obtain ⟨hI, hf43, hw42⟩ := hw42
            refine lv_istore_n (lv' := [(3, .int (iI z40)), (2, .int (iI z9)), (0, .ref (q 3)), (1, .ref (q ta))]) hx hb dX5_readTown_144 rfl hl (by decide) rfl (fun ls hl => ?_)
            refine lv_goto (tgt := 231) hx hb dX5_readTown_145 (by decide) ?_
            exact J231_27 z40 _ _ _ _ (by omega) hI (fk.trans (fk.rf) hf43 rfl rfl) hP hS (lv_sub hl [0, 1, 2, 3] rfl)
          · refine tp_i (y := iI 3) (congrArg iI c26) ?_
            refine lv_tableIn (off := 94) (tgt := 148) hx hb dX5_readTown_54 (by decide +kernel) (by decide +kernel) (by decide +kernel) (by decide) ?_
            refine lv_aload_n hx hb dX5_readTown_148 rfl (lv_at hl 1 rfl) ?_
            refine lv_aload_n hx hb dX5_readTown_149 rfl (lv_at hl 2 rfl) ?_
            refine k_calli (As := [.ref (q ta)]) (rest := []) ⟨hx, hb, hml, hown, hts⟩ hE (kc_X5_readKey l dC dI cB cI cJ cZ cQ aL aS q _ ta hI hta) (cwV 1 hts (goodVk (wk_in_6 _ (List.mem_of_getElem? (i := 31) rfl)) (wk_in_6 _ (List.mem_of_getElem? (i := 32) rfl)) (wk_in_6 _ (List.mem_of_getElem? (i := 33) rfl)) (wk_in_5 _ (List.mem_of_getElem? (i := 28) rfl)) (wk_in_6 _ (List.mem_of_getElem? (i := 34) rfl))) rfl rfl rfl (by decide +kernel) ⟨Nat.le_of_ble_eq_true rfl, Nat.le_of_ble_eq_true rfl⟩) hK hDD hA0 hP hS 3 5 (wkRD) rfl rfl hl.1 (Nat.le_of_ble_eq_true rfl) dX5_readTown_150 (fun z44 A45 H locs hw46 hP hS => ?_)
            obtain ⟨hI, hf47, hw46⟩ := hw46
            refine lv_istore_n (lv' := [(3, .int (iI z44)), (2, .int (iI z9)), (0, .ref (q 3)), (1, .ref (q ta))]) hx hb dX5_readTown_153 rfl hl (by decide) rfl (fun ls hl => ?_)
            refine lv_goto (tgt := 231) hx hb dX5_readTown_154 (by decide) ?_
            exact J231_27 z44 _ _ _ _ (by omega) hI (fk.trans (fk.rf) hf47 rfl rfl) hP hS (lv_sub hl [0, 1, 2, 3] rfl)
          · refine tp_i (y := iI 4) (congrArg iI c26) ?_
            refine lv_tableIn (off := 103) (tgt := 157) hx hb dX5_readTown_54 (by decide +kernel) (by decide +kernel) (by decide +kernel) (by decide) ?_
            refine lv_aload_n hx hb dX5_readTown_157 rfl (lv_at hl 1 rfl) ?_
            refine lv_aload_n hx hb dX5_readTown_158 rfl (lv_at hl 2 rfl) ?_
            refine k_calli (As := [.ref (q ta)]) (rest := []) ⟨hx, hb, hml, hown, hts⟩ hE (kc_X5_readPerson l dC dI cB cI cJ cZ cQ aL aS q _ ta hI hta) (cwV 1 hts (goodVk (wk_in_6 _ (List.mem_of_getElem? (i := 44) rfl)) (wk_in_6 _ (List.mem_of_getElem? (i := 45) rfl)) (wk_in_6 _ (List.mem_of_getElem? (i := 46) rfl)) (wk_in_5 _ (List.mem_of_getElem? (i := 28) rfl)) (wk_in_6 _ (List.mem_of_getElem? (i := 47) rfl))) rfl rfl rfl (by decide +kernel) ⟨Nat.le_of_ble_eq_true rfl, Nat.le_of_ble_eq_true rfl⟩) hK hDD hA0 hP hS 3 5 (wkRD) rfl rfl hl.1 (Nat.le_of_ble_eq_true rfl) dX5_readTown_159 (fun z48 A49 H locs hw50 hP hS => ?_)
            obtain ⟨hI, hf51, hw50⟩ := hw50
            refine lv_istore_n (lv' := [(3, .int (iI z48)), (2, .int (iI z9)), (0, .ref (q 3)), (1, .ref (q ta))]) hx hb dX5_readTown_162 rfl hl (by decide) rfl (fun ls hl => ?_)
            refine lv_goto (tgt := 231) hx hb dX5_readTown_163 (by decide) ?_
            exact J231_27 z48 _ _ _ _ (by omega) hI (fk.trans (fk.rf) hf51 rfl rfl) hP hS (lv_sub hl [0, 1, 2, 3] rfl)
          · refine tp_i (y := iI 5) (congrArg iI c26) ?_
            refine lv_tableIn (off := 112) (tgt := 166) hx hb dX5_readTown_54 (by decide +kernel) (by decide +kernel) (by decide +kernel) (by decide) ?_
            refine lv_aload_n hx hb dX5_readTown_166 rfl (lv_at hl 1 rfl) ?_
            refine lv_aload_n hx hb dX5_readTown_167 rfl (lv_at hl 2 rfl) ?_
            refine k_calli (As := [.ref (q ta)]) (rest := []) ⟨hx, hb, hml, hown, hts⟩ hE (kc_X5_readThing l dC dI cB cI cJ cZ cQ aL aS q _ ta hI hta) (cwV 1 hts (goodVk (wk_in_6 _ (List.mem_of_getElem? (i := 53) rfl)) (wk_in_6 _ (List.mem_of_getElem? (i := 54) rfl)) (wk_in_6 _ (List.mem_of_getElem? (i := 55) rfl)) (wk_in_5 _ (List.mem_of_getElem? (i := 28) rfl)) (wk_in_6 _ (List.mem_of_getElem? (i := 56) rfl))) rfl rfl rfl (by decide +kernel) ⟨Nat.le_of_ble_eq_true rfl, Nat.le_of_ble_eq_true rfl⟩) hK hDD hA0 hP hS 3 5 (wkRD) rfl rfl hl.1 (Nat.le_of_ble_eq_true rfl) dX5_readTown_168 (fun z52 A53 H locs hw54 hP hS => ?_)
            obtain ⟨hI, hf55, hw54⟩ := hw54
            refine lv_istore_n (lv' := [(3, .int (iI z52)), (2, .int (iI z9)), (0, .ref (q 3)), (1, .ref (q ta))]) hx hb dX5_readTown_171 rfl hl (by decide) rfl (fun ls hl => ?_)
            refine lv_goto (tgt := 231) hx hb dX5_readTown_172 (by decide) ?_
            exact J231_27 z52 _ _ _ _ (by omega) hI (fk.trans (fk.rf) hf55 rfl rfl) hP hS (lv_sub hl [0, 1, 2, 3] rfl)
          · refine tp_i (y := iI 6) (congrArg iI c26) ?_
            refine lv_tableIn (off := 121) (tgt := 175) hx hb dX5_readTown_54 (by decide +kernel) (by decide +kernel) (by decide +kernel) (by decide) ?_
            refine lv_aload_n hx hb dX5_readTown_175 rfl (lv_at hl 1 rfl) ?_
            refine lv_aload_n hx hb dX5_readTown_176 rfl (lv_at hl 2 rfl) ?_
            refine k_calli (As := [.ref (q ta)]) (rest := []) ⟨hx, hb, hml, hown, hts⟩ hE (kc_X5_readWants l dC dI cB cI cJ cZ cQ aL aS q _ ta hI hta (by omega)) (cwV 1 hts (goodVk (wk_in_7 _ (List.mem_of_getElem? (i := 2) rfl)) (wk_in_7 _ (List.mem_of_getElem? (i := 3) rfl)) (wk_in_7 _ (List.mem_of_getElem? (i := 4) rfl)) (wk_in_5 _ (List.mem_of_getElem? (i := 28) rfl)) (wk_in_7 _ (List.mem_of_getElem? (i := 5) rfl))) rfl rfl rfl (by decide +kernel) ⟨Nat.le_of_ble_eq_true rfl, Nat.le_of_ble_eq_true rfl⟩) hK hDD hA0 hP hS 3 5 (wkRD) rfl rfl hl.1 (Nat.le_of_ble_eq_true rfl) dX5_readTown_177 (fun z56 A57 H locs hw58 hP hS => ?_)
            obtain ⟨hI, hf59, hw58⟩ := hw58
            refine lv_istore_n (lv' := [(3, .int (iI z56)), (2, .int (iI z9)), (0, .ref (q 3)), (1, .ref (q ta))]) hx hb dX5_readTown_180 rfl hl (by decide) rfl (fun ls hl => ?_)
            refine lv_goto (tgt := 231) hx hb dX5_readTown_181 (by decide) ?_
            exact J231_27 z56 _ _ _ _ (by omega) hI (fk.trans (fk.rf) hf59 rfl rfl) hP hS (lv_sub hl [0, 1, 2, 3] rfl)
          · refine tp_i (y := iI 7) (congrArg iI c26) ?_
            refine lv_tableIn (off := 130) (tgt := 184) hx hb dX5_readTown_54 (by decide +kernel) (by decide +kernel) (by decide +kernel) (by decide) ?_
            refine lv_aload_n hx hb dX5_readTown_184 rfl (lv_at hl 1 rfl) ?_
            refine lv_aload_n hx hb dX5_readTown_185 rfl (lv_at hl 2 rfl) ?_
            refine k_calli (As := [.ref (q ta)]) (rest := []) ⟨hx, hb, hml, hown, hts⟩ hE (kc_X5_readMust l dC dI cB cI cJ cZ cQ aL aS q _ ta hI hta) (cwV 1 hts (goodVk (wk_in_7 _ (List.mem_of_getElem? (i := 8) rfl)) (wk_in_7 _ (List.mem_of_getElem? (i := 9) rfl)) (wk_in_7 _ (List.mem_of_getElem? (i := 10) rfl)) (wk_in_5 _ (List.mem_of_getElem? (i := 28) rfl)) (wk_in_7 _ (List.mem_of_getElem? (i := 11) rfl))) rfl rfl rfl (by decide +kernel) ⟨Nat.le_of_ble_eq_true rfl, Nat.le_of_ble_eq_true rfl⟩) hK hDD hA0 hP hS 3 5 (wkRD) rfl rfl hl.1 (Nat.le_of_ble_eq_true rfl) dX5_readTown_186 (fun z60 A61 H locs hw62 hP hS => ?_)
            obtain ⟨hI, hf63, hw62⟩ := hw62
            refine lv_istore_n (lv' := [(3, .int (iI z60)), (2, .int (iI z9)), (0, .ref (q 3)), (1, .ref (q ta))]) hx hb dX5_readTown_189 rfl hl (by decide) rfl (fun ls hl => ?_)
            refine lv_goto (tgt := 231) hx hb dX5_readTown_190 (by decide) ?_
            exact J231_27 z60 _ _ _ _ (by omega) hI (fk.trans (fk.rf) hf63 rfl rfl) hP hS (lv_sub hl [0, 1, 2, 3] rfl)
          · refine tp_i (y := iI 8) (congrArg iI c26) ?_
            refine lv_tableIn (off := 139) (tgt := 193) hx hb dX5_readTown_54 (by decide +kernel) (by decide +kernel) (by decide +kernel) (by decide) ?_
            refine lv_aload_n hx hb dX5_readTown_193 rfl (lv_at hl 1 rfl) ?_
            refine lv_aload_n hx hb dX5_readTown_194 rfl (lv_at hl 2 rfl) ?_
            have e65 : A17 3 4 = (A11 3 4) := (hf19 3 4 rfl rfl)
            have e64 : A23 3 4 = (A11 3 4) := (hf25 3 4 rfl rfl).trans e65
            have r66 : (0 : Int) ≤ (A11 3 4) ∧ (A11 3 4) ≤ 8 := by rw [← e64]; exact irRD_4 hI
            refine k_calli (As := [.ref (q ta)]) (rest := []) ⟨hx, hb, hml, hown, hts⟩ hE (kc_X5_readBar l dC dI cB cI cJ cZ cQ aL aS q _ ta hI hta) (cwV 1 hts (goodVk (wk_in_7 _ (List.mem_of_getElem? (i := 19) rfl)) (wk_in_7 _ (List.mem_of_getElem? (i := 20) rfl)) (wk_in_7 _ (List.mem_of_getElem? (i := 21) rfl)) (wk_in_5 _ (List.mem_of_getElem? (i := 28) rfl)) (wk_in_7 _ (List.mem_of_getElem? (i := 22) rfl))) rfl rfl rfl (by decide +kernel) ⟨Nat.le_of_ble_eq_true rfl, Nat.le_of_ble_eq_true rfl⟩) hK hDD hA0 hP hS 3 5 (wkRD) rfl rfl hl.1 (Nat.le_of_ble_eq_true rfl) dX5_readTown_195 (fun z67 A68 H locs hw69 hP hS => ?_)
            obtain ⟨hI, hf70, hw69⟩ := hw69
            refine lv_istore_n (lv' := [(3, .int (iI z67)), (2, .int (iI z9)), (0, .ref (q 3)), (1, .ref (q ta))]) hx hb dX5_readTown_198 rfl hl (by decide) rfl (fun ls hl => ?_)
            refine lv_goto (tgt := 231) hx hb dX5_readTown_199 (by decide) ?_
            exact J231_27 z67 _ _ _ _ (by omega) hI (fk.trans (fk.rf) hf70 rfl rfl) hP hS (lv_sub hl [0, 1, 2, 3] rfl)
          · refine tp_i (y := iI 9) (congrArg iI c26) ?_
            refine lv_tableIn (off := 148) (tgt := 202) hx hb dX5_readTown_54 (by decide +kernel) (by decide +kernel) (by decide +kernel) (by decide) ?_
            refine lv_aload_n hx hb dX5_readTown_202 rfl (lv_at hl 1 rfl) ?_
            refine lv_aload_n hx hb dX5_readTown_203 rfl (lv_at hl 2 rfl) ?_
            refine k_calli (As := [.ref (q ta)]) (rest := []) ⟨hx, hb, hml, hown, hts⟩ hE (kc_X5_readHas l dC dI cB cI cJ cZ cQ aL aS q _ ta hI hta) (cwV 1 hts (goodVk (wk_in_8 _ (List.mem_of_getElem? (i := 28) rfl)) (wk_in_8 _ (List.mem_of_getElem? (i := 29) rfl)) (wk_in_8 _ (List.mem_of_getElem? (i := 30) rfl)) (wk_in_5 _ (List.mem_of_getElem? (i := 28) rfl)) (wk_in_8 _ (List.mem_of_getElem? (i := 31) rfl))) rfl rfl rfl (by decide +kernel) ⟨Nat.le_of_ble_eq_true rfl, Nat.le_of_ble_eq_true rfl⟩) hK hDD hA0 hP hS 3 5 (wkRD) rfl rfl hl.1 (Nat.le_of_ble_eq_true rfl) dX5_readTown_204 (fun z71 A72 H locs hw73 hP hS => ?_)
            obtain ⟨hI, hf74, hw73⟩ := hw73
            refine lv_istore_n (lv' := [(3, .int (iI z71)), (2, .int (iI z9)), (0, .ref (q 3)), (1, .ref (q ta))]) hx hb dX5_readTown_207 rfl hl (by decide) rfl (fun ls hl => ?_)
            refine lv_goto (tgt := 231) hx hb dX5_readTown_208 (by decide) ?_
            exact J231_27 z71 _ _ _ _ (by omega) hI (fk.trans (fk.rf) hf74 rfl rfl) hP hS (lv_sub hl [0, 1, 2, 3] rfl)
          · refine tp_i (y := iI 10) (congrArg iI c26) ?_
            refine lv_tableIn (off := 157) (tgt := 211) hx hb dX5_readTown_54 (by decide +kernel) (by decide +kernel) (by decide +kernel) (by decide) ?_
            refine lv_aload_n hx hb dX5_readTown_211 rfl (lv_at hl 1 rfl) ?_
            refine lv_aload_n hx hb dX5_readTown_212 rfl (lv_at hl 2 rfl) ?_
            refine k_calli (As := [.ref (q ta)]) (rest := []) ⟨hx, hb, hml, hown, hts⟩ hE (kc_X5_readShut l dC dI cB cI cJ cZ cQ aL aS q _ ta hI hta) (cwV 1 hts (goodVk (wk_in_8 _ (List.mem_of_getElem? (i := 34) rfl)) (wk_in_8 _ (List.mem_of_getElem? (i := 35) rfl)) (wk_in_8 _ (List.mem_of_getElem? (i := 36) rfl)) (wk_in_5 _ (List.mem_of_getElem? (i := 28) rfl)) (wk_in_8 _ (List.mem_of_getElem? (i := 37) rfl))) rfl rfl rfl (by decide +kernel) ⟨Nat.le_of_ble_eq_true rfl, Nat.le_of_ble_eq_true rfl⟩) hK hDD hA0 hP hS 3 5 (wkRD) rfl rfl hl.1 (Nat.le_of_ble_eq_true rfl) dX5_readTown_213 (fun z75 A76 H locs hw77 hP hS => ?_)
            obtain ⟨hI, hf78, hw77⟩ := hw77
            refine lv_istore_n (lv' := [(3, .int (iI z75)), (2, .int (iI z9)), (0, .ref (q 3)), (1, .ref (q ta))]) hx hb dX5_readTown_216 rfl hl (by decide) rfl (fun ls hl => ?_)
            refine lv_goto (tgt := 231) hx hb dX5_readTown_217 (by decide) ?_
            exact J231_27 z75 _ _ _ _ (by omega) hI (fk.trans (fk.rf) hf78 rfl rfl) hP hS (lv_sub hl [0, 1, 2, 3] rfl)
          · refine tp_i (y := iI 11) (congrArg iI c26) ?_
            refine lv_tableIn (off := 166) (tgt := 220) hx hb dX5_readTown_54 (by decide +kernel) (by decide +kernel) (by decide +kernel) (by decide) ?_
            refine lv_aload_n hx hb dX5_readTown_220 rfl (lv_at hl 1 rfl) ?_
            refine lv_aload_n hx hb dX5_readTown_221 rfl (lv_at hl 2 rfl) ?_
            refine k_calli (As := [.ref (q ta)]) (rest := []) ⟨hx, hb, hml, hown, hts⟩ hE (kc_X5_readLost l dC dI cB cI cJ cZ cQ aL aS q _ ta hI hta) (cwV 1 hts (goodVk (wk_in_8 _ (List.mem_of_getElem? (i := 39) rfl)) (wk_in_8 _ (List.mem_of_getElem? (i := 40) rfl)) (wk_in_8 _ (List.mem_of_getElem? (i := 41) rfl)) (wk_in_5 _ (List.mem_of_getElem? (i := 28) rfl)) (wk_in_8 _ (List.mem_of_getElem? (i := 42) rfl))) rfl rfl rfl (by decide +kernel) ⟨Nat.le_of_ble_eq_true rfl, Nat.le_of_ble_eq_true rfl⟩) hK hDD hA0 hP hS 3 5 (wkRD) rfl rfl hl.1 (Nat.le_of_ble_eq_true rfl) dX5_readTown_222 (fun z79 A80 H locs hw81 hP hS => ?_)
            obtain ⟨hI, hf82, hw81⟩ := hw81
            refine lv_istore_n (lv' := [(3, .int (iI z79)), (2, .int (iI z9)), (0, .ref (q 3)), (1, .ref (q ta))]) hx hb dX5_readTown_225 rfl hl (by decide) rfl (fun ls hl => ?_)
            refine lv_goto (tgt := 231) hx hb dX5_readTown_226 (by decide) ?_
            exact J231_27 z79 _ _ _ _ (by omega) hI (fk.trans (fk.rf) hf82 rfl rfl) hP hS (lv_sub hl [0, 1, 2, 3] rfl)
        · have c21 : (A17 5 2) = 0 := (i_eq0 (rb r20 (by decide) (by decide))).mp c21
          refine lv_iload_n hx hb dX5_readTown_47 rfl (lv_at hl 0 rfl) ?_
          exact RET z9 _ _ _ _ _ ⟨hI, fk.trans (fk.trans (fk.df (fk.df (fk.trans (fk.trans (fk.rf) hf3 rfl rfl) hf6 rfl rfl) hA7 rfl) hA8 rfl) hj10 rfl rfl) hf19 rfl rfl, (rb f14 (by decide) (by decide))⟩ hP hS dX5_readTown_48
  exact L23_12 _ 0 _ _ _ _ (by omega) rfl hI (fk.rf) hP hS (lv_sub hl [0, 1, 2] rfl)

def ws_kc_X6_topOf : List Cond := .code yX6_topOf cX6_topOf 2 (some .int) :: WY
set_option maxHeartbeats 4000000 in
set_option maxRecDepth 100000 in
theorem kc_X6_topOf (l : Launch) (dC : Nat → ClassId) (dI : Nat → Nat → Nat) (cB cI cJ cZ cQ : ClassId) (aL aS : Nat) (q : Nat → Nat) (A : St) (ta : Nat) (x1 : Int) (hI : IK A) (hta : isS ta) (hx1 : (-2147483648 : Int) ≤ x1 ∧ x1 ≤ 2147483647) : KMi l yX6_topOf ws_kc_X6_topOf ({ frames := 1, cells := 0, slots := 0, locals := 22 } : Room) aL aS (dC, dI) (tyA cB cI cJ cZ cQ) (WK cB cI cJ cZ cQ q) A [.ref (q ta), .int (iI x1)] (fun z u => A = u ∧ ((-2147483648 ≤ z ∧ z ≤ 2147483647) ∧ (z = -1 ∨ 0 ≤ x1 ∧ x1 ≤ 3 ∧ 1 ≤ A (ta + 3) x1.toNat))) := by
  refine k_meti (cc := cX6_topOf) (maxL := 2) WK_adr (plainFor_of_name (by decide +kernel)) rfl (Nat.le_of_ble_eq_true rfl) (fun p e s m below meth c Q AS ls hx hb hml hown hts hK hDD hA0 hE RET H locs hP hS hl => ?_)
  have hown : s.vm.findClass RX6 = some m.cls := hown
  have hl : lv_has ls 2 [(0, .ref (q ta)), (1, .int (iI x1))] := hl
  have hiX6 : ∀ w ∈ u_ws RX6 TX6 4, w ∈ ws_kc_X6_topOf := fun w h => List.mem_cons_of_mem _ (wy_layX6 w h)
  refine lv_iload_n hx hb dX6_topOf_0 rfl (lv_at hl 1 rfl) ?_
  refine lv_if_lt (tgt := 25) hx hb dX6_topOf_1 (by decide) (fun c1 => ?_) (fun c1 => ?_)
  · have c1 : x1 < 0 := (i_lt0 hx1).mp c1
    refine lv_iconst (v := iI (-1)) hx hb dX6_topOf_25 (by decide +kernel) ?_
    exact RET (-1) _ _ _ _ _ ⟨rfl, by omega⟩ hP hS dX6_topOf_26
  · have c1 : ¬ x1 < 0 := mt (i_lt0 hx1).mpr c1
    refine lv_iload_n hx hb dX6_topOf_4 rfl (lv_at hl 1 rfl) ?_
    refine lv_iconst (v := iI 4) hx hb dX6_topOf_5 (by decide +kernel) ?_
    refine lv_icmp_ge (tgt := 25) hx hb dX6_topOf_6 (by decide) (fun c2 => ?_) (fun c2 => ?_)
    · have c2 : 4 ≤ x1 := (i_le ⟨by decide, by decide⟩ hx1).mp c2
      refine lv_iconst (v := iI (-1)) hx hb dX6_topOf_25 (by decide +kernel) ?_
      exact RET (-1) _ _ _ _ _ ⟨rfl, by omega⟩ hP hS dX6_topOf_26
    · have c2 : ¬ 4 ≤ x1 := mt (i_le ⟨by decide, by decide⟩ hx1).mpr c2
      refine lv_aload_n hx hb dX6_topOf_9 rfl (lv_at hl 0 rfl) ?_
      refine lv_iload_n hx hb dX6_topOf_10 rfl (lv_at hl 1 rfl) ?_
      refine lv_aload_n hx hb dX6_topOf_11 rfl (lv_at hl 0 rfl) ?_
      refine va_get (D := (dC, dI)) (ci := 6) (v := .ref (q (ta + 3))) (C := RX6) (T := TX6) (N := 4) hx hb hts hiX6 hown hK hP ta (wkS hta) rfl 2 (by decide) (hts _ (List.mem_cons_of_mem _ (wk_in_0 _ (List.mem_of_getElem? (i := 58) rfl)))) (fun _ h9 => h9) rfl dX6_topOf_12 ?_
      refine lv_iload_n hx hb dX6_topOf_15 rfl (lv_at hl 1 rfl) ?_
      refine x_iald (Wf := WK cB cI cJ cZ cQ q) hx hb hK hP (ta + 3) 1 (wkSz hta) rfl (by omega) (by decide) dX6_topOf_16 (fun z3 hz3 => ?_)
      have rz3 : (0 : Int) ≤ z3 ∧ z3 ≤ 6 := by rw [hz3]; exact irSz hta hI
      refine lv_iconst (v := iI 1) hx hb dX6_topOf_17 (by decide +kernel) ?_
      refine x_subv (v := z3 - 1) hx hb dX6_topOf_18 (by omega) ?_
      refine k_calli (As := [.int (iI x1), .int (iI (z3 - 1))]) (rest := []) ⟨hx, hb, hml, hown, hts⟩ hE (kc_X6_inRow l dC dI cB cI cJ cZ cQ aL aS q _ ta x1 (z3 - 1) hI hta hx1 (by omega)) (cwV 2 hts (goodVk (wk_in_0 _ (List.mem_of_getElem? (i := 54) rfl)) (wk_in_0 _ (List.mem_of_getElem? (i := 55) rfl)) (wk_in_0 _ (List.mem_of_getElem? (i := 56) rfl)) (wk_in_0 _ (List.mem_of_getElem? (i := 52) rfl)) (wk_in_0 _ (List.mem_of_getElem? (i := 57) rfl))) rfl rfl rfl (by decide +kernel) ⟨Nat.le_of_ble_eq_true rfl, Nat.le_of_ble_eq_true rfl⟩) hK hDD hA0 hP hS ta 6 (wkS hta) rfl rfl hl.1 (Nat.le_of_ble_eq_true rfl) dX6_topOf_19 (fun z4 A5 H locs hw6 hP hS => ?_)
      obtain ⟨rfl, hw6⟩ := hw6
      refine lv_goto (tgt := 26) hx hb dX6_topOf_22 (by decide) ?_
      exact RET z4 _ _ _ _ _ ⟨rfl, by omega⟩ hP hS dX6_topOf_26

def ws_kc_X7_hasRoom : List Cond := .code yX7_hasRoom cX7_hasRoom 1 (some .boolean) :: WY
set_option maxHeartbeats 4000000 in
set_option maxRecDepth 100000 in
theorem kc_X7_hasRoom (l : Launch) (dC : Nat → ClassId) (dI : Nat → Nat → Nat) (cB cI cJ cZ cQ : ClassId) (aL aS : Nat) (q : Nat → Nat) (A : St) (hI : IK A) : KMi l yX7_hasRoom ws_kc_X7_hasRoom ({ frames := 0, cells := 0, slots := 0, locals := 0 } : Room) aL aS (dC, dI) (tyA cB cI cJ cZ cQ) (WK cB cI cJ cZ cQ q) A [.ref (q 1)] (fun z u => A = u ∧ ((0 ≤ z ∧ z ≤ 1) ∧ ((z = 1 → A 1 1 + 20 ≤ 1600) ∧ (z = 0 → 1600 < A 1 1 + 20)))) := by
  refine k_metz (cc := cX7_hasRoom) (maxL := 1) WK_adr (plainFor_of_name (by decide +kernel)) rfl (Nat.le_of_ble_eq_true rfl) (fun z u h => h.2.1) (fun p e s m below meth c Q AS ls hx hb hml hown hts hK hDD hA0 hE RET H locs hP hS hl => ?_)
  have hown : s.vm.findClass RX7 = some m.cls := hown
  have hl : lv_has ls 1 [(0, .ref (q 1))] := hl
  have hiX7 : ∀ w ∈ u_ws RX7 TX7 2, w ∈ ws_kc_X7_hasRoom := fun w h => List.mem_cons_of_mem _ (wy_layX7 w h)
  refine lv_aload_n hx hb dX7_hasRoom_0 rfl (lv_at hl 0 rfl) ?_
  have r1 : (0 : Int) ≤ (A 1 1) ∧ (A 1 1) ≤ 1600 := irTP_1 hI
  refine va_get (D := (dC, dI)) (ci := 7) (v := .int (iI (A 1 1))) (C := RX7) (T := TX7) (N := 2) hx hb hts hiX7 hown hK hP 1 (wkTP) rfl 1 (by decide) (hts _ (List.mem_cons_of_mem _ (wk_in_4 _ (List.mem_of_getElem? (i := 43) rfl)))) (fun _ h9 => h9) rfl dX7_hasRoom_1 ?_
  refine lv_bipush (v := iI 20) hx hb dX7_hasRoom_4 (by decide +kernel) ?_
  refine x_addv (v := (A 1 1) + 20) hx hb dX7_hasRoom_6 (by omega) ?_
  refine lv_sipush (v := iI 1600) hx hb dX7_hasRoom_7 (by decide +kernel) ?_
  refine lv_icmp_gt (tgt := 17) hx hb dX7_hasRoom_10 (by decide) (fun c2 => ?_) (fun c2 => ?_)
  · have c2 : 1600 < (A 1 1) + 20 := (i_lt ⟨by decide, by decide⟩ (by omega)).mp c2
    refine lv_iconst (v := iI 0) hx hb dX7_hasRoom_17 (by decide +kernel) ?_
    exact RET 0 _ _ _ _ _ ⟨rfl, by omega⟩ hP hS dX7_hasRoom_18
  · have c2 : ¬ 1600 < (A 1 1) + 20 := mt (i_lt ⟨by decide, by decide⟩ (by omega)).mpr c2
    refine lv_iconst (v := iI 1) hx hb dX7_hasRoom_13 (by decide +kernel) ?_
    refine lv_goto (tgt := 18) hx hb dX7_hasRoom_14 (by decide) ?_
    exact RET 1 _ _ _ _ _ ⟨rfl, by omega⟩ hP hS dX7_hasRoom_18

def ws_kc_X7_put : List Cond := .code yX7_put cX7_put 3 none :: WY
set_option maxHeartbeats 4000000 in
set_option maxRecDepth 100000 in
theorem kc_X7_put (l : Launch) (dC : Nat → ClassId) (dI : Nat → Nat → Nat) (cB cI cJ cZ cQ : ClassId) (aL aS : Nat) (q : Nat → Nat) (A : St) (x1 : Int) (hI : IK A) (hx1 : (-2147483648 : Int) ≤ x1 ∧ x1 ≤ 2147483647) (hp0 : A 1 1 + 4 ≤ 1600) : KMv l yX7_put ws_kc_X7_put ({ frames := 0, cells := 0, slots := 0, locals := 0 } : Room) aL aS (dC, dI) (tyA cB cI cJ cZ cQ) (WK cB cI cJ cZ cQ q) A [.ref (q 1), .int (iI x1)] (fun u => IK u ∧ fk [2] [(1, 1)] A u ∧ (u 1 1 = A 1 1 + 4)) := by
  refine k_metv (cc := cX7_put) (maxL := 3) WK_adr (plainFor_of_name (by decide +kernel)) rfl (Nat.le_of_ble_eq_true rfl) (fun p e s m below meth c Q AS ls hx hb hml hown hts hK hDD hA0 hE RET H locs hP hS hl => ?_)
  have hown : s.vm.findClass RX7 = some m.cls := hown
  have hl : lv_has ls 3 [(0, .ref (q 1)), (1, .int (iI x1))] := hl
  have hiX7 : ∀ w ∈ u_ws RX7 TX7 2, w ∈ ws_kc_X7_put := fun w h => List.mem_cons_of_mem _ (wy_layX7 w h)
  refine lv_bipush (v := iI 24) hx hb dX7_put_0 (by decide +kernel) ?_
  refine lv_istore_n (lv' := [(2, .int (iI 24)), (0, .ref (q 1)), (1, .int (iI x1))]) hx hb dX7_put_2 rfl hl (by decide) rfl (fun ls hl => ?_)
  have L3_4 : ∀ (n9 : Nat) (z1 : Int) (A3 : St) (H : Heap) (locs : List Loc) (ls : Array Slot), (-2147483648 ≤ z1 ∧ z1 ≤ 24) → (8 * (A3 1 1 - A 1 1) = 24 - z1) → (-8 ≤ z1) → ((z1 - (-1)).toNat = n9) → IK A3 → fk [2] [(1, 1)] A A3 → va_P (dC, dI) vwCl (WK cB cI cJ cZ cQ q A3) H → va_S AS s.heap H locs → lv_has ls 3 [(2, .int (iI z1)), (0, .ref (q 1)), (1, .int (iI x1))] → W p l e (headSpec ws_kc_X7_put ({ frames := 0, cells := 0, slots := 0, locals := 0 } : Room)).room s m [.ref (q 1), .int (iI x1)].toArray below meth c H locs 0 0 Q (F0 m 3 ls []) := by
    intro n9
    induction n9 using Nat.strongRecOn with
    | ind n9 ih5 =>
      intro z1 A3 H locs ls f6 f7 f8 hn9 hI hj2 hP hS hl
      have r10 : (0 : Int) ≤ (A3 1 1) ∧ (A3 1 1) ≤ 1600 := irTP_1 hI
      refine lv_iload_n hx hb dX7_put_3 rfl (lv_at hl 0 rfl) ?_
      refine lv_if_lt (tgt := 53) hx hb dX7_put_4 (by decide) (fun c11 => ?_) (fun c11 => ?_)
      · have c11 : z1 < 0 := (i_lt0 (rb f6 (by decide) (by decide))).mp c11
        exact RET _ _ _ _ _ ⟨hI, fk.trans (fk.rf) hj2 rfl rfl, by omega⟩ hP hS dX7_put_53
      · have c11 : ¬ z1 < 0 := mt (i_lt0 (rb f6 (by decide) (by decide))).mpr c11
        refine lv_aload_n hx hb dX7_put_7 rfl (lv_at hl 1 rfl) ?_
        refine va_get (D := (dC, dI)) (ci := 7) (v := .int (iI (A3 1 1))) (C := RX7) (T := TX7) (N := 2) hx hb hts hiX7 hown hK hP 1 (wkTP) rfl 1 (by decide) (hts _ (List.mem_cons_of_mem _ (wk_in_4 _ (List.mem_of_getElem? (i := 43) rfl)))) (fun _ h9 => h9) rfl dX7_put_8 ?_
        refine lv_if_lt (tgt := 47) hx hb dX7_put_11 (by decide) (fun c12 => False.elim (by have c12 : (A3 1 1) < 0 := (i_lt0 (rb r10 (by decide) (by decide))).mp c12; omega)) (fun _ => ?_)
        refine lv_aload_n hx hb dX7_put_14 rfl (lv_at hl 1 rfl) ?_
        refine va_get (D := (dC, dI)) (ci := 7) (v := .int (iI (A3 1 1))) (C := RX7) (T := TX7) (N := 2) hx hb hts hiX7 hown hK hP 1 (wkTP) rfl 1 (by decide) (hts _ (List.mem_cons_of_mem _ (wk_in_4 _ (List.mem_of_getElem? (i := 43) rfl)))) (fun _ h9 => h9) rfl dX7_put_15 ?_
        refine lv_sipush (v := iI 1600) hx hb dX7_put_18 (by decide +kernel) ?_
        refine lv_icmp_ge (tgt := 47) hx hb dX7_put_21 (by decide) (fun c13 => ?_) (fun c13 => ?_)
        · have c13 : 1600 ≤ (A3 1 1) := (i_le ⟨by decide, by decide⟩ (rb r10 (by decide) (by decide))).mp c13
          refine lv_iinc (v := iI (z1 - 8)) (lv' := [(2, .int (iI (z1 - 8))), (0, .ref (q 1)), (1, .int (iI x1))]) hx hb dX7_put_47 hl (k := 0) rfl (i_inc (by omega)) (by decide) rfl (fun ls hl => ?_)
          refine lv_goto (tgt := 3) hx hb dX7_put_50 (by decide) ?_
          exact ih5 _ (by omega) (z1 - 8) _ _ _ _ (by omega) (by omega) (by omega) rfl hI (fk.trans (fk.rf) hj2 rfl rfl) hP hS (lv_sub hl [0, 1, 2] rfl)
        · have c13 : ¬ 1600 ≤ (A3 1 1) := mt (i_le ⟨by decide, by decide⟩ (rb r10 (by decide) (by decide))).mpr c13
          refine lv_aload_n hx hb dX7_put_24 rfl (lv_at hl 1 rfl) ?_
          refine va_get (D := (dC, dI)) (ci := 7) (v := .ref (q 2)) (C := RX7) (T := TX7) (N := 2) hx hb hts hiX7 hown hK hP 1 (wkTP) rfl 0 (by decide) (hts _ (List.mem_cons_of_mem _ (wk_in_4 _ (List.mem_of_getElem? (i := 44) rfl)))) (fun _ h9 => h9) rfl dX7_put_25 ?_
          refine lv_aload_n hx hb dX7_put_28 rfl (lv_at hl 1 rfl) ?_
          refine va_get (D := (dC, dI)) (ci := 7) (v := .int (iI (A3 1 1))) (C := RX7) (T := TX7) (N := 2) hx hb hts hiX7 hown hK hP 1 (wkTP) rfl 1 (by decide) (hts _ (List.mem_cons_of_mem _ (wk_in_4 _ (List.mem_of_getElem? (i := 43) rfl)))) (fun _ h9 => h9) rfl dX7_put_29 ?_
          refine lv_iload_n hx hb dX7_put_32 rfl (lv_at hl 2 rfl) ?_
          refine lv_iload_n hx hb dX7_put_33 rfl (lv_at hl 0 rfl) ?_
          refine lv_ishr hx hb dX7_put_34 ?_
          refine x_abs (fun z14 hz14 => ?_)
          refine k_i2b hx hb dX7_put_35 (fun z15 hz15 => ?_)
          refine k_bast (Wf := WK cB cI cJ cZ cQ q) hx hb hK hP hDD hS 2 0 (wkTPb) rfl (by omega) (by decide) dX7_put_36 (by omega) (wsTPb) (fun H locs A16 hA16 hP hS => ?_)
          have hI := isTPb hA16 hI (show (-128 : Int) ≤ z15 ∧ z15 ≤ 127 from (by omega))
          refine lv_aload_n hx hb dX7_put_37 rfl (lv_at hl 1 rfl) ?_
          refine lv_dup hx hb dX7_put_38 rfl ?_
          have e17 : A16 1 1 = (A3 1 1) := (rd_ne hA16 (by decide) 1)
          refine va_get (D := (dC, dI)) (ci := 7) (v := .int (iI (A16 1 1))) (C := RX7) (T := TX7) (N := 2) hx hb hts hiX7 hown hK hP 1 (wkTP) rfl 1 (by decide) (hts _ (List.mem_cons_of_mem _ (wk_in_4 _ (List.mem_of_getElem? (i := 43) rfl)))) (fun _ h9 => h9) rfl dX7_put_39 ?_
          refine tp_i (y := iI (A3 1 1)) (congrArg iI e17) ?_
          refine lv_iconst (v := iI 1) hx hb dX7_put_42 (by decide +kernel) ?_
          refine x_addv (v := (A3 1 1) + 1) hx hb dX7_put_43 (by omega) ?_
          refine k_put (Wf := WK cB cI cJ cZ cQ q) (D := (dC, dI)) (ci := 7) (v := .int (iI ((A3 1 1) + 1))) (ty := .int) (C := RX7) (T := TX7) (N := 2) hx hb hts hiX7 tyX7 tyX7_ok nmX7 hown hK hP hDD hS 1 (wkTP) rfl 1 (by decide) (hts _ (List.mem_cons_of_mem _ (wk_in_4 _ (List.mem_of_getElem? (i := 43) rfl)))) (fun _ h9 => h9) rfl (by decide +kernel) rfl rfl (Nat.le_of_ble_eq_true rfl) dX7_put_44 (wfTP_1 (v := (A3 1 1) + 1)) (fun H locs A18 hA18 hP hS => ?_)
          have hI := isTP_1 hA18 hI (show (0 : Int) ≤ (A3 1 1) + 1 ∧ (A3 1 1) + 1 ≤ 1600 from (by omega))
          refine lv_iinc (v := iI (z1 - 8)) (lv' := [(2, .int (iI (z1 - 8))), (0, .ref (q 1)), (1, .int (iI x1))]) hx hb dX7_put_47 hl (k := 0) rfl (i_inc (by omega)) (by decide) rfl (fun ls hl => ?_)
          refine lv_goto (tgt := 3) hx hb dX7_put_50 (by decide) ?_
          have e19 : A18 1 1 = (A3 1 1) + 1 := rd_is hA18
          exact ih5 _ (by omega) (z1 - 8) _ _ _ _ (by omega) (by omega) (by omega) rfl hI (fk.df (fk.da (fk.trans (fk.rf) hj2 rfl rfl) hA16 rfl) hA18 rfl) hP hS (lv_sub hl [0, 1, 2] rfl)
  have r20 : (0 : Int) ≤ (A 1 1) ∧ (A 1 1) ≤ 1600 := irTP_1 hI
  exact L3_4 _ 24 _ _ _ _ (by omega) (by omega) (by omega) rfl hI (fk.rf) hP hS (lv_sub hl [0, 1, 2] rfl)

def ws_kc_X9_hasDoorAt : List Cond := .code yX9_hasDoorAt cX9_hasDoorAt 3 (some .boolean) :: WY
set_option maxHeartbeats 4000000 in
set_option maxRecDepth 100000 in
theorem kc_X9_hasDoorAt (l : Launch) (dC : Nat → ClassId) (dI : Nat → Nat → Nat) (cB cI cJ cZ cQ : ClassId) (aL aS : Nat) (q : Nat → Nat) (A : St) (ta : Nat) (x1 : Int) (hI : IK A) (hta : isT ta) (hx1 : (-2147483648 : Int) ≤ x1 ∧ x1 ≤ 2147483647) : KMi l yX9_hasDoorAt ws_kc_X9_hasDoorAt ({ frames := 1, cells := 0, slots := 0, locals := 22 } : Room) aL aS (dC, dI) (tyA cB cI cJ cZ cQ) (WK cB cI cJ cZ cQ q) A [.ref (q ta), .int (iI x1)] (fun z u => A = u ∧ (0 ≤ z ∧ z ≤ 1)) := by
  refine k_metz (cc := cX9_hasDoorAt) (maxL := 3) WK_adr (plainFor_of_name (by decide +kernel)) rfl (Nat.le_of_ble_eq_true rfl) (fun z u h => h.2) (fun p e s m below meth c Q AS ls hx hb hml hown hts hK hDD hA0 hE RET H locs hP hS hl => ?_)
  have hown : s.vm.findClass RX9 = some m.cls := hown
  have hl : lv_has ls 3 [(0, .ref (q ta)), (1, .int (iI x1))] := hl
  have hiX9 : ∀ w ∈ u_ws RX9 TX9 16, w ∈ ws_kc_X9_hasDoorAt := fun w h => List.mem_cons_of_mem _ (wy_layX9 w h)
  refine lv_iconst (v := iI 0) hx hb dX9_hasDoorAt_0 (by decide +kernel) ?_
  refine lv_istore_n (lv' := [(2, .int (iI 0)), (0, .ref (q ta)), (1, .int (iI x1))]) hx hb dX9_hasDoorAt_1 rfl hl (by decide) rfl (fun ls hl => ?_)
  have L2_3 : ∀ (n7 : Nat) (z1 : Int) (H : Heap) (locs : List Loc) (ls : Array Slot), (0 ≤ z1 ∧ z1 ≤ 2147483647) → ((11 - z1).toNat = n7) → va_P (dC, dI) vwCl (WK cB cI cJ cZ cQ q A) H → va_S AS s.heap H locs → lv_has ls 3 [(2, .int (iI z1)), (0, .ref (q ta)), (1, .int (iI x1))] → W p l e (headSpec ws_kc_X9_hasDoorAt ({ frames := 1, cells := 0, slots := 0, locals := 22 } : Room)).room s m [.ref (q ta), .int (iI x1)].toArray below meth c H locs 0 0 Q (F0 m 2 ls []) := by
    intro n7
    induction n7 using Nat.strongRecOn with
    | ind n7 ih4 =>
      intro z1 H locs ls f5 hn7 hP hS hl
      refine lv_iload_n hx hb dX9_hasDoorAt_2 rfl (lv_at hl 0 rfl) ?_
      refine lv_aload_n hx hb dX9_hasDoorAt_3 rfl (lv_at hl 1 rfl) ?_
      refine va_get (D := (dC, dI)) (ci := 9) (v := .ref (q (ta + 1))) (C := RX9) (T := TX9) (N := 16) hx hb hts hiX9 hown hK hP ta (wkT hta) rfl 0 (by decide) (hts _ (List.mem_cons_of_mem _ (wk_in_0 _ (List.mem_of_getElem? (i := 8) rfl)))) (fun _ h9 => h9) rfl dX9_hasDoorAt_4 ?_
      refine lv_iconst (v := iI 1) hx hb dX9_hasDoorAt_7 (by decide +kernel) ?_
      refine x_iald (Wf := WK cB cI cJ cZ cQ q) hx hb hK hP (ta + 1) 1 (wkTc hta) rfl (by decide) (by decide) dX9_hasDoorAt_8 (fun z8 hz8 => ?_)
      have rz8 : (0 : Int) ≤ z8 ∧ z8 ≤ 10 := by rw [hz8]; exact irTc1 hta hI
      refine lv_icmp_ge (tgt := 37) hx hb dX9_hasDoorAt_9 (by decide) (fun c9 => ?_) (fun c9 => ?_)
      · have c9 : z8 ≤ z1 := (i_le (rb rz8 (by decide) (by decide)) (rb f5 (by decide) (by decide))).mp c9
        refine lv_iconst (v := iI 0) hx hb dX9_hasDoorAt_37 (by decide +kernel) ?_
        exact RET 0 _ _ _ _ _ ⟨rfl, ⟨by decide, by decide⟩⟩ hP hS dX9_hasDoorAt_38
      · have c9 : ¬ z8 ≤ z1 := mt (i_le (rb rz8 (by decide) (by decide)) (rb f5 (by decide) (by decide))).mpr c9
        refine lv_aload_n hx hb dX9_hasDoorAt_12 rfl (lv_at hl 1 rfl) ?_
        refine lv_iload_n hx hb dX9_hasDoorAt_13 rfl (lv_at hl 0 rfl) ?_
        refine k_calli (As := [.int (iI z1)]) (rest := []) ⟨hx, hb, hml, hown, hts⟩ hE (kc_X9_isBox l dC dI cB cI cJ cZ cQ aL aS q _ ta z1 hI hta (rb f5 (by decide) (by decide))) (cwV 1 hts (goodVk (wk_in_8 _ (List.mem_of_getElem? (i := 48) rfl)) (wk_in_1 _ (List.mem_of_getElem? (i := 6) rfl)) (wk_in_1 _ (List.mem_of_getElem? (i := 7) rfl)) (wk_in_0 _ (List.mem_of_getElem? (i := 6) rfl)) (wk_in_1 _ (List.mem_of_getElem? (i := 8) rfl))) rfl rfl rfl (by decide +kernel) ⟨Nat.le_of_ble_eq_true rfl, Nat.le_of_ble_eq_true rfl⟩) hK hDD hA0 hP hS ta 9 (wkT hta) rfl rfl hl.1 (Nat.le_of_ble_eq_true rfl) dX9_hasDoorAt_14 (fun z10 A11 H locs hw12 hP hS => ?_)
        obtain ⟨rfl, hw12⟩ := hw12
        have rz10 : 0 ≤ z10 ∧ z10 ≤ 1 := hw12.1
        have hw12 := hw12.2
        have J31_14 : ∀ (H : Heap) (locs : List Loc) (ls : Array Slot), va_P (dC, dI) vwCl (WK cB cI cJ cZ cQ q A) H → va_S AS s.heap H locs → lv_has ls 3 [(2, .int (iI z1)), (0, .ref (q ta)), (1, .int (iI x1))] → W p l e (headSpec ws_kc_X9_hasDoorAt ({ frames := 1, cells := 0, slots := 0, locals := 22 } : Room)).room s m [.ref (q ta), .int (iI x1)].toArray below meth c H locs 0 0 Q (F0 m 31 ls []) := by
          intro H locs ls hP hS hl
          clear hw12
          refine lv_iinc (v := iI (z1 + 1)) (lv' := [(2, .int (iI (z1 + 1))), (0, .ref (q ta)), (1, .int (iI x1))]) hx hb dX9_hasDoorAt_31 hl (k := 0) rfl (i_inc (by omega)) (by decide) rfl (fun ls hl => ?_)
          refine lv_goto (tgt := 2) hx hb dX9_hasDoorAt_34 (by decide) ?_
          exact ih4 _ (by omega) (z1 + 1) _ _ _ (by omega) rfl hP hS (lv_sub hl [0, 1, 2] rfl)
        refine lv_if_ne (tgt := 31) hx hb dX9_hasDoorAt_17 (by decide) (fun c13 => ?_) (fun c13 => ?_)
        · have c13 : ¬ z10 = 0 := mt (i_eq0 (rb rz10 (by decide) (by decide))).mpr c13
          have hw12b := hw12 (by omega)
          clear hw12
          exact J31_14 _ _ _ hP hS (lv_sub hl [0, 1, 2] rfl)
        · have c13 : z10 = 0 := (i_eq0 (rb rz10 (by decide) (by decide))).mp c13
          clear hw12
          refine lv_aload_n hx hb dX9_hasDoorAt_20 rfl (lv_at hl 1 rfl) ?_
          refine lv_iload_n hx hb dX9_hasDoorAt_21 rfl (lv_at hl 0 rfl) ?_
          refine lv_iload_n hx hb dX9_hasDoorAt_22 rfl (lv_at hl 2 rfl) ?_
          refine k_calli (As := [.int (iI z1), .int (iI x1)]) (rest := []) ⟨hx, hb, hml, hown, hts⟩ hE (kc_X9_isAt l dC dI cB cI cJ cZ cQ aL aS q _ ta z1 x1 hI hta (rb f5 (by decide) (by decide)) hx1) (cwV 2 hts (goodVk (wk_in_8 _ (List.mem_of_getElem? (i := 49) rfl)) (wk_in_1 _ (List.mem_of_getElem? (i := 11) rfl)) (wk_in_1 _ (List.mem_of_getElem? (i := 12) rfl)) (wk_in_0 _ (List.mem_of_getElem? (i := 6) rfl)) (wk_in_1 _ (List.mem_of_getElem? (i := 13) rfl))) rfl rfl rfl (by decide +kernel) ⟨Nat.le_of_ble_eq_true rfl, Nat.le_of_ble_eq_true rfl⟩) hK hDD hA0 hP hS ta 9 (wkT hta) rfl rfl hl.1 (Nat.le_of_ble_eq_true rfl) dX9_hasDoorAt_23 (fun z15 A16 H locs hw17 hP hS => ?_)
          obtain ⟨rfl, hw17⟩ := hw17
          have rz15 : 0 ≤ z15 ∧ z15 ≤ 1 := hw17.1
          have hw17 := hw17.2
          refine lv_if_eq (tgt := 31) hx hb dX9_hasDoorAt_26 (by decide) (fun c18 => ?_) (fun c18 => ?_)
          · have c18 : z15 = 0 := (i_eq0 (rb rz15 (by decide) (by decide))).mp c18
            clear hw17
            exact J31_14 _ _ _ hP hS (lv_sub hl [0, 1, 2] rfl)
          · have c18 : ¬ z15 = 0 := mt (i_eq0 (rb rz15 (by decide) (by decide))).mpr c18
            have hw17b := hw17 (by omega)
            clear hw17
            refine lv_iconst (v := iI 1) hx hb dX9_hasDoorAt_29 (by decide +kernel) ?_
            exact RET 1 _ _ _ _ _ ⟨rfl, ⟨by decide, by decide⟩⟩ hP hS dX9_hasDoorAt_30
  exact L2_3 _ 0 _ _ _ (by omega) rfl hP hS (lv_sub hl [0, 1, 2] rfl)

def ws_kc_X9_shutMask : List Cond := .code yX9_shutMask cX9_shutMask 3 (some .int) :: WY
set_option maxHeartbeats 4000000 in
set_option maxRecDepth 100000 in
theorem kc_X9_shutMask (l : Launch) (dC : Nat → ClassId) (dI : Nat → Nat → Nat) (cB cI cJ cZ cQ : ClassId) (aL aS : Nat) (q : Nat → Nat) (A : St) (ta : Nat) (hI : IK A) (hta : isT ta) : KMi l yX9_shutMask ws_kc_X9_shutMask ({ frames := 2, cells := 0, slots := 0, locals := 46 } : Room) aL aS (dC, dI) (tyA cB cI cJ cZ cQ) (WK cB cI cJ cZ cQ q) A [.ref (q ta)] (fun z u => A = u ∧ (-2147483648 ≤ z ∧ z ≤ 2147483647)) := by
  refine k_meti (cc := cX9_shutMask) (maxL := 3) WK_adr (plainFor_of_name (by decide +kernel)) rfl (Nat.le_of_ble_eq_true rfl) (fun p e s m below meth c Q AS ls hx hb hml hown hts hK hDD hA0 hE RET H locs hP hS hl => ?_)
  have hown : s.vm.findClass RX9 = some m.cls := hown
  have hl : lv_has ls 3 [(0, .ref (q ta))] := hl
  have hiX9 : ∀ w ∈ u_ws RX9 TX9 16, w ∈ ws_kc_X9_shutMask := fun w h => List.mem_cons_of_mem _ (wy_layX9 w h)
  refine lv_aload_n hx hb dX9_shutMask_0 rfl (lv_at hl 0 rfl) ?_
  have r1 : (-2147483648 : Int) ≤ (A ta 15) ∧ (A ta 15) ≤ 2147483647 := irT_15 hta hI
  refine va_get (D := (dC, dI)) (ci := 9) (v := .int (iI (A ta 15))) (C := RX9) (T := TX9) (N := 16) hx hb hts hiX9 hown hK hP ta (wkT hta) rfl 15 (by decide) (hts _ (List.mem_cons_of_mem _ (wk_in_5 _ (List.mem_of_getElem? (i := 18) rfl)))) (fun _ h9 => h9) rfl dX9_shutMask_1 ?_
  refine lv_istore_n (lv' := [(1, .int (iI (A ta 15))), (0, .ref (q ta))]) hx hb dX9_shutMask_4 rfl hl (by decide) rfl (fun ls hl => ?_)
  refine lv_iconst (v := iI 0) hx hb dX9_shutMask_5 (by decide +kernel) ?_
  refine lv_istore_n (lv' := [(2, .int (iI 0)), (1, .int (iI (A ta 15))), (0, .ref (q ta))]) hx hb dX9_shutMask_6 rfl hl (by decide) rfl (fun ls hl => ?_)
  have L7_5 : ∀ (n10 : Nat) (z2 z3 : Int) (H : Heap) (locs : List Loc) (ls : Array Slot), (0 ≤ z2 ∧ z2 ≤ 2147483647) → (-2147483648 ≤ z3 ∧ z3 ≤ 2147483647) → ((5 - z2).toNat = n10) → va_P (dC, dI) vwCl (WK cB cI cJ cZ cQ q A) H → va_S AS s.heap H locs → lv_has ls 3 [(2, .int (iI z2)), (1, .int (iI z3)), (0, .ref (q ta))] → W p l e (headSpec ws_kc_X9_shutMask ({ frames := 2, cells := 0, slots := 0, locals := 46 } : Room)).room s m [.ref (q ta)].toArray below meth c H locs 0 0 Q (F0 m 7 ls []) := by
    intro n10
    induction n10 using Nat.strongRecOn with
    | ind n10 ih6 =>
      intro z2 z3 H locs ls f7 f8 hn10 hP hS hl
      refine lv_iload_n hx hb dX9_shutMask_7 rfl (lv_at hl 0 rfl) ?_
      refine lv_aload_n hx hb dX9_shutMask_8 rfl (lv_at hl 2 rfl) ?_
      refine va_get (D := (dC, dI)) (ci := 9) (v := .ref (q (ta + 1))) (C := RX9) (T := TX9) (N := 16) hx hb hts hiX9 hown hK hP ta (wkT hta) rfl 0 (by decide) (hts _ (List.mem_cons_of_mem _ (wk_in_0 _ (List.mem_of_getElem? (i := 8) rfl)))) (fun _ h9 => h9) rfl dX9_shutMask_9 ?_
      refine lv_iconst (v := iI 2) hx hb dX9_shutMask_12 (by decide +kernel) ?_
      refine x_iald (Wf := WK cB cI cJ cZ cQ q) hx hb hK hP (ta + 1) 1 (wkTc hta) rfl (by decide) (by decide) dX9_shutMask_13 (fun z11 hz11 => ?_)
      have rz11 : (0 : Int) ≤ z11 ∧ z11 ≤ 4 := by rw [hz11]; exact irTc2 hta hI
      refine lv_icmp_ge (tgt := 34) hx hb dX9_shutMask_14 (by decide) (fun c12 => ?_) (fun c12 => ?_)
      · have c12 : z11 ≤ z2 := (i_le (rb rz11 (by decide) (by decide)) (rb f7 (by decide) (by decide))).mp c12
        refine lv_iload_n hx hb dX9_shutMask_34 rfl (lv_at hl 1 rfl) ?_
        exact RET z3 _ _ _ _ _ ⟨rfl, f8⟩ hP hS dX9_shutMask_35
      · have c12 : ¬ z11 ≤ z2 := mt (i_le (rb rz11 (by decide) (by decide)) (rb f7 (by decide) (by decide))).mpr c12
        refine lv_iload_n hx hb dX9_shutMask_17 rfl (lv_at hl 1 rfl) ?_
        refine lv_aload_n hx hb dX9_shutMask_18 rfl (lv_at hl 2 rfl) ?_
        refine va_get (D := (dC, dI)) (ci := 9) (v := .ref (q (ta + 22))) (C := RX9) (T := TX9) (N := 16) hx hb hts hiX9 hown hK hP ta (wkT hta) rfl 14 (by decide) (hts _ (List.mem_cons_of_mem _ (wk_in_0 _ (List.mem_of_getElem? (i := 9) rfl)))) (fun _ h9 => h9) rfl dX9_shutMask_19 ?_
        refine lv_iload_n hx hb dX9_shutMask_22 rfl (lv_at hl 0 rfl) ?_
        refine k_calli (As := [.int (iI z2)]) (rest := [.int (iI z3)]) ⟨hx, hb, hml, hown, hts⟩ hE (kc_X6_rowMask l dC dI cB cI cJ cZ cQ aL aS q _ (ta + 22) z2 hI hta.s (rb f7 (by decide) (by decide))) (cwV 1 hts (goodVk (wk_in_8 _ (List.mem_of_getElem? (i := 51) rfl)) (wk_in_0 _ (List.mem_of_getElem? (i := 50) rfl)) (wk_in_0 _ (List.mem_of_getElem? (i := 51) rfl)) (wk_in_0 _ (List.mem_of_getElem? (i := 52) rfl)) (wk_in_0 _ (List.mem_of_getElem? (i := 53) rfl))) rfl rfl rfl (by decide +kernel) ⟨Nat.le_of_ble_eq_true rfl, Nat.le_of_ble_eq_true rfl⟩) hK hDD hA0 hP hS (ta + 22) 6 (wkS hta.s) rfl rfl hl.1 (Nat.le_of_ble_eq_true rfl) dX9_shutMask_23 (fun z13 A14 H locs hw15 hP hS => ?_)
        obtain ⟨rfl, hw15⟩ := hw15
        refine lv_ior hx hb dX9_shutMask_26 ?_
        refine x_abs (fun z16 hz16 => ?_)
        refine lv_istore_n (lv' := [(1, .int (iI z16)), (2, .int (iI z2)), (0, .ref (q ta))]) hx hb dX9_shutMask_27 rfl hl (by decide) rfl (fun ls hl => ?_)
        refine lv_iinc (v := iI (z2 + 1)) (lv' := [(2, .int (iI (z2 + 1))), (1, .int (iI z16)), (0, .ref (q ta))]) hx hb dX9_shutMask_28 hl (k := 1) rfl (i_inc (by omega)) (by decide) rfl (fun ls hl => ?_)
        refine lv_goto (tgt := 7) hx hb dX9_shutMask_31 (by decide) ?_
        exact ih6 _ (by omega) (z2 + 1) z16 _ _ _ (by omega) (by omega) rfl hP hS (lv_sub hl [0, 1, 2] rfl)
  exact L7_5 _ 0 (A ta 15) _ _ _ (by omega) (by omega) rfl hP hS (lv_sub hl [0, 1, 2] rfl)

def ws_kc_X9_deadMask : List Cond := .code yX9_deadMask cX9_deadMask 3 (some .int) :: WY
set_option maxHeartbeats 4000000 in
set_option maxRecDepth 100000 in
theorem kc_X9_deadMask (l : Launch) (dC : Nat → ClassId) (dI : Nat → Nat → Nat) (cB cI cJ cZ cQ : ClassId) (aL aS : Nat) (q : Nat → Nat) (A : St) (ta : Nat) (hI : IK A) (hta : isT ta) : KMi l yX9_deadMask ws_kc_X9_deadMask ({ frames := 2, cells := 0, slots := 0, locals := 46 } : Room) aL aS (dC, dI) (tyA cB cI cJ cZ cQ) (WK cB cI cJ cZ cQ q) A [.ref (q ta)] (fun z u => A = u ∧ (-2147483648 ≤ z ∧ z ≤ 2147483647)) := by
  refine k_meti (cc := cX9_deadMask) (maxL := 3) WK_adr (plainFor_of_name (by decide +kernel)) rfl (Nat.le_of_ble_eq_true rfl) (fun p e s m below meth c Q AS ls hx hb hml hown hts hK hDD hA0 hE RET H locs hP hS hl => ?_)
  have hown : s.vm.findClass RX9 = some m.cls := hown
  have hl : lv_has ls 3 [(0, .ref (q ta))] := hl
  have hiX9 : ∀ w ∈ u_ws RX9 TX9 16, w ∈ ws_kc_X9_deadMask := fun w h => List.mem_cons_of_mem _ (wy_layX9 w h)
  have hiX6 : ∀ w ∈ u_ws RX6 TX6 4, w ∈ ws_kc_X9_deadMask := fun w h => List.mem_cons_of_mem _ (wy_layX6 w h)
  refine lv_aload_n hx hb dX9_deadMask_0 rfl (lv_at hl 0 rfl) ?_
  have r1 : (-2147483648 : Int) ≤ (A ta 15) ∧ (A ta 15) ≤ 2147483647 := irT_15 hta hI
  refine va_get (D := (dC, dI)) (ci := 9) (v := .int (iI (A ta 15))) (C := RX9) (T := TX9) (N := 16) hx hb hts hiX9 hown hK hP ta (wkT hta) rfl 15 (by decide) (hts _ (List.mem_cons_of_mem _ (wk_in_5 _ (List.mem_of_getElem? (i := 18) rfl)))) (fun _ h9 => h9) rfl dX9_deadMask_1 ?_
  refine lv_istore_n (lv' := [(1, .int (iI (A ta 15))), (0, .ref (q ta))]) hx hb dX9_deadMask_4 rfl hl (by decide) rfl (fun ls hl => ?_)
  refine lv_iconst (v := iI 0) hx hb dX9_deadMask_5 (by decide +kernel) ?_
  refine lv_istore_n (lv' := [(2, .int (iI 0)), (1, .int (iI (A ta 15))), (0, .ref (q ta))]) hx hb dX9_deadMask_6 rfl hl (by decide) rfl (fun ls hl => ?_)
  have L7_5 : ∀ (n10 : Nat) (z2 z3 : Int) (H : Heap) (locs : List Loc) (ls : Array Slot), (0 ≤ z2 ∧ z2 ≤ 2147483647) → (-2147483648 ≤ z3 ∧ z3 ≤ 2147483647) → ((5 - z2).toNat = n10) → va_P (dC, dI) vwCl (WK cB cI cJ cZ cQ q A) H → va_S AS s.heap H locs → lv_has ls 3 [(2, .int (iI z2)), (1, .int (iI z3)), (0, .ref (q ta))] → W p l e (headSpec ws_kc_X9_deadMask ({ frames := 2, cells := 0, slots := 0, locals := 46 } : Room)).room s m [.ref (q ta)].toArray below meth c H locs 0 0 Q (F0 m 7 ls []) := by
    intro n10
    induction n10 using Nat.strongRecOn with
    | ind n10 ih6 =>
      intro z2 z3 H locs ls f7 f8 hn10 hP hS hl
      refine lv_iload_n hx hb dX9_deadMask_7 rfl (lv_at hl 0 rfl) ?_
      refine lv_aload_n hx hb dX9_deadMask_8 rfl (lv_at hl 2 rfl) ?_
      refine va_get (D := (dC, dI)) (ci := 9) (v := .ref (q (ta + 1))) (C := RX9) (T := TX9) (N := 16) hx hb hts hiX9 hown hK hP ta (wkT hta) rfl 0 (by decide) (hts _ (List.mem_cons_of_mem _ (wk_in_0 _ (List.mem_of_getElem? (i := 8) rfl)))) (fun _ h9 => h9) rfl dX9_deadMask_9 ?_
      refine lv_iconst (v := iI 2) hx hb dX9_deadMask_12 (by decide +kernel) ?_
      refine x_iald (Wf := WK cB cI cJ cZ cQ q) hx hb hK hP (ta + 1) 1 (wkTc hta) rfl (by decide) (by decide) dX9_deadMask_13 (fun z11 hz11 => ?_)
      have rz11 : (0 : Int) ≤ z11 ∧ z11 ≤ 4 := by rw [hz11]; exact irTc2 hta hI
      refine lv_icmp_ge (tgt := 48) hx hb dX9_deadMask_14 (by decide) (fun c12 => ?_) (fun c12 => ?_)
      · have c12 : z11 ≤ z2 := (i_le (rb rz11 (by decide) (by decide)) (rb f7 (by decide) (by decide))).mp c12
        refine lv_iload_n hx hb dX9_deadMask_48 rfl (lv_at hl 1 rfl) ?_
        exact RET z3 _ _ _ _ _ ⟨rfl, f8⟩ hP hS dX9_deadMask_49
      · have c12 : ¬ z11 ≤ z2 := mt (i_le (rb rz11 (by decide) (by decide)) (rb f7 (by decide) (by decide))).mpr c12
        refine lv_aload_n hx hb dX9_deadMask_17 rfl (lv_at hl 2 rfl) ?_
        refine va_get (D := (dC, dI)) (ci := 9) (v := .ref (q (ta + 22))) (C := RX9) (T := TX9) (N := 16) hx hb hts hiX9 hown hK hP ta (wkT hta) rfl 14 (by decide) (hts _ (List.mem_cons_of_mem _ (wk_in_0 _ (List.mem_of_getElem? (i := 9) rfl)))) (fun _ h9 => h9) rfl dX9_deadMask_18 ?_
        refine va_get (D := (dC, dI)) (ci := 6) (v := .ref (q ((ta + 22) + 2))) (C := RX6) (T := TX6) (N := 4) hx hb hts hiX6 hown hK hP (ta + 22) (wkS hta.s) rfl 1 (by decide) (hts _ (List.mem_cons_of_mem _ (wk_in_0 _ (List.mem_of_getElem? (i := 10) rfl)))) (fun _ h9 => h9) rfl dX9_deadMask_21 ?_
        refine lv_iload_n hx hb dX9_deadMask_24 rfl (lv_at hl 0 rfl) ?_
        refine x_iald (Wf := WK cB cI cJ cZ cQ q) hx hb hK hP ((ta + 22) + 2) 1 (wkSw hta.s) rfl (by omega) (by decide) dX9_deadMask_25 (fun z13 hz13 => ?_)
        have rz13 : (-2147483648 : Int) ≤ z13 ∧ z13 ≤ 2147483647 := by rw [hz13]; exact irSw hta.s hI
        refine lv_bipush (v := iI 40) hx hb dX9_deadMask_26 (by decide +kernel) ?_
        have J42_15 : ∀ (z20 : Int) (H : Heap) (locs : List Loc) (ls : Array Slot), (-2147483648 ≤ z20 ∧ z20 ≤ 2147483647) → va_P (dC, dI) vwCl (WK cB cI cJ cZ cQ q A) H → va_S AS s.heap H locs → lv_has ls 3 [(2, .int (iI z2)), (1, .int (iI z20)), (0, .ref (q ta))] → W p l e (headSpec ws_kc_X9_deadMask ({ frames := 2, cells := 0, slots := 0, locals := 46 } : Room)).room s m [.ref (q ta)].toArray below meth c H locs 0 0 Q (F0 m 42 ls []) := by
          intro z20 H locs ls f22 hP hS hl
          refine lv_iinc (v := iI (z2 + 1)) (lv' := [(2, .int (iI (z2 + 1))), (1, .int (iI z20)), (0, .ref (q ta))]) hx hb dX9_deadMask_42 hl (k := 0) rfl (i_inc (by omega)) (by decide) rfl (fun ls hl => ?_)
          refine lv_goto (tgt := 7) hx hb dX9_deadMask_45 (by decide) ?_
          exact ih6 _ (by omega) (z2 + 1) z20 _ _ _ (by omega) (by omega) rfl hP hS (lv_sub hl [0, 1, 2] rfl)
        refine lv_icmp_ne (tgt := 42) hx hb dX9_deadMask_28 (by decide) (fun c14 => ?_) (fun c14 => ?_)
        · have c14 : ¬ z13 = 40 := mt (i_eq rz13 ⟨by decide, by decide⟩).mpr c14
          exact J42_15 z3 _ _ _ (by omega) hP hS (lv_sub hl [0, 1, 2] rfl)
        · have c14 : z13 = 40 := (i_eq rz13 ⟨by decide, by decide⟩).mp c14
          refine lv_iload_n hx hb dX9_deadMask_31 rfl (lv_at hl 1 rfl) ?_
          refine lv_aload_n hx hb dX9_deadMask_32 rfl (lv_at hl 2 rfl) ?_
          refine va_get (D := (dC, dI)) (ci := 9) (v := .ref (q (ta + 22))) (C := RX9) (T := TX9) (N := 16) hx hb hts hiX9 hown hK hP ta (wkT hta) rfl 14 (by decide) (hts _ (List.mem_cons_of_mem _ (wk_in_0 _ (List.mem_of_getElem? (i := 9) rfl)))) (fun _ h9 => h9) rfl dX9_deadMask_33 ?_
          refine lv_iload_n hx hb dX9_deadMask_36 rfl (lv_at hl 0 rfl) ?_
          refine k_calli (As := [.int (iI z2)]) (rest := [.int (iI z3)]) ⟨hx, hb, hml, hown, hts⟩ hE (kc_X6_rowMask l dC dI cB cI cJ cZ cQ aL aS q _ (ta + 22) z2 hI hta.s (rb f7 (by decide) (by decide))) (cwV 1 hts (goodVk (wk_in_8 _ (List.mem_of_getElem? (i := 51) rfl)) (wk_in_0 _ (List.mem_of_getElem? (i := 50) rfl)) (wk_in_0 _ (List.mem_of_getElem? (i := 51) rfl)) (wk_in_0 _ (List.mem_of_getElem? (i := 52) rfl)) (wk_in_0 _ (List.mem_of_getElem? (i := 53) rfl))) rfl rfl rfl (by decide +kernel) ⟨Nat.le_of_ble_eq_true rfl, Nat.le_of_ble_eq_true rfl⟩) hK hDD hA0 hP hS (ta + 22) 6 (wkS hta.s) rfl rfl hl.1 (Nat.le_of_ble_eq_true rfl) dX9_deadMask_37 (fun z16 A17 H locs hw18 hP hS => ?_)
          obtain ⟨rfl, hw18⟩ := hw18
          refine lv_ior hx hb dX9_deadMask_40 ?_
          refine x_abs (fun z19 hz19 => ?_)
          refine lv_istore_n (lv' := [(1, .int (iI z19)), (2, .int (iI z2)), (0, .ref (q ta))]) hx hb dX9_deadMask_41 rfl hl (by decide) rfl (fun ls hl => ?_)
          exact J42_15 z19 _ _ _ (by omega) hP hS (lv_sub hl [1, 0, 2] rfl)
  exact L7_5 _ 0 (A ta 15) _ _ _ (by omega) (by omega) rfl hP hS (lv_sub hl [0, 1, 2] rfl)

def ws_kc_X9_isShut : List Cond := .code yX9_isShut cX9_isShut 2 (some .boolean) :: WY
set_option maxHeartbeats 4000000 in
set_option maxRecDepth 100000 in
theorem kc_X9_isShut (l : Launch) (dC : Nat → ClassId) (dI : Nat → Nat → Nat) (cB cI cJ cZ cQ : ClassId) (aL aS : Nat) (q : Nat → Nat) (A : St) (ta : Nat) (x1 : Int) (hI : IK A) (hta : isT ta) (hx1 : (-2147483648 : Int) ≤ x1 ∧ x1 ≤ 2147483647) : KMi l yX9_isShut ws_kc_X9_isShut ({ frames := 3, cells := 0, slots := 0, locals := 68 } : Room) aL aS (dC, dI) (tyA cB cI cJ cZ cQ) (WK cB cI cJ cZ cQ q) A [.ref (q ta), .int (iI x1)] (fun z u => A = u ∧ (0 ≤ z ∧ z ≤ 1)) := by
  refine k_metz (cc := cX9_isShut) (maxL := 2) WK_adr (plainFor_of_name (by decide +kernel)) rfl (Nat.le_of_ble_eq_true rfl) (fun z u h => h.2) (fun p e s m below meth c Q AS ls hx hb hml hown hts hK hDD hA0 hE RET H locs hP hS hl => ?_)
  have hown : s.vm.findClass RX9 = some m.cls := hown
  have hl : lv_has ls 2 [(0, .ref (q ta)), (1, .int (iI x1))] := hl
  refine lv_aload_n hx hb dX9_isShut_0 rfl (lv_at hl 0 rfl) ?_
  refine k_calli (As := []) (rest := []) ⟨hx, hb, hml, hown, hts⟩ hE (kc_X9_shutMask l dC dI cB cI cJ cZ cQ aL aS q _ ta hI hta) (cwV 0 hts (goodVk (wk_in_8 _ (List.mem_of_getElem? (i := 54) rfl)) (wk_in_8 _ (List.mem_of_getElem? (i := 55) rfl)) (wk_in_8 _ (List.mem_of_getElem? (i := 56) rfl)) (wk_in_0 _ (List.mem_of_getElem? (i := 6) rfl)) (wk_in_8 _ (List.mem_of_getElem? (i := 50) rfl))) rfl rfl rfl (by decide +kernel) ⟨Nat.le_of_ble_eq_true rfl, Nat.le_of_ble_eq_true rfl⟩) hK hDD hA0 hP hS ta 9 (wkT hta) rfl rfl hl.1 (Nat.le_of_ble_eq_true rfl) dX9_isShut_1 (fun z1 A2 H locs hw3 hP hS => ?_)
  obtain ⟨rfl, hw3⟩ := hw3
  refine lv_iload_n hx hb dX9_isShut_4 rfl (lv_at hl 1 rfl) ?_
  refine lv_ishr hx hb dX9_isShut_5 ?_
  refine x_abs (fun z4 hz4 => ?_)
  refine lv_iconst (v := iI 1) hx hb dX9_isShut_6 (by decide +kernel) ?_
  refine lv_iand hx hb dX9_isShut_7 ?_
  refine x_and (b := 1) (by omega) (fun z5 hz5 => ?_)
  refine lv_if_eq (tgt := 15) hx hb dX9_isShut_8 (by decide) (fun c6 => ?_) (fun c6 => ?_)
  · have c6 : z5 = 0 := (i_eq0 (by omega)).mp c6
    refine lv_iconst (v := iI 0) hx hb dX9_isShut_15 (by decide +kernel) ?_
    exact RET 0 _ _ _ _ _ ⟨rfl, ⟨by decide, by decide⟩⟩ hP hS dX9_isShut_16
  · have c6 : ¬ z5 = 0 := mt (i_eq0 (by omega)).mpr c6
    refine lv_iconst (v := iI 1) hx hb dX9_isShut_11 (by decide +kernel) ?_
    refine lv_goto (tgt := 16) hx hb dX9_isShut_12 (by decide) ?_
    exact RET 1 _ _ _ _ _ ⟨rfl, ⟨by decide, by decide⟩⟩ hP hS dX9_isShut_16

def ws_kc_X9_rowsWith : List Cond := .code yX9_rowsWith cX9_rowsWith 4 (some .int) :: WY
set_option maxHeartbeats 4000000 in
set_option maxRecDepth 100000 in
theorem kc_X9_rowsWith (l : Launch) (dC : Nat → ClassId) (dI : Nat → Nat → Nat) (cB cI cJ cZ cQ : ClassId) (aL aS : Nat) (q : Nat → Nat) (A : St) (ta : Nat) (x1 : Int) (hI : IK A) (hta : isT ta) (hx1 : (-2147483648 : Int) ≤ x1 ∧ x1 ≤ 2147483647) : KMi l yX9_rowsWith ws_kc_X9_rowsWith ({ frames := 2, cells := 0, slots := 0, locals := 45 } : Room) aL aS (dC, dI) (tyA cB cI cJ cZ cQ) (WK cB cI cJ cZ cQ q) A [.ref (q ta), .int (iI x1)] (fun z u => A = u ∧ (-2147483648 ≤ z ∧ z ≤ 2147483647)) := by
  refine k_meti (cc := cX9_rowsWith) (maxL := 4) WK_adr (plainFor_of_name (by decide +kernel)) rfl (Nat.le_of_ble_eq_true rfl) (fun p e s m below meth c Q AS ls hx hb hml hown hts hK hDD hA0 hE RET H locs hP hS hl => ?_)
  have hown : s.vm.findClass RX9 = some m.cls := hown
  have hl : lv_has ls 4 [(0, .ref (q ta)), (1, .int (iI x1))] := hl
  have hiX9 : ∀ w ∈ u_ws RX9 TX9 16, w ∈ ws_kc_X9_rowsWith := fun w h => List.mem_cons_of_mem _ (wy_layX9 w h)
  refine lv_iconst (v := iI 0) hx hb dX9_rowsWith_0 (by decide +kernel) ?_
  refine lv_istore_n (lv' := [(2, .int (iI 0)), (0, .ref (q ta)), (1, .int (iI x1))]) hx hb dX9_rowsWith_1 rfl hl (by decide) rfl (fun ls hl => ?_)
  refine lv_iconst (v := iI 0) hx hb dX9_rowsWith_2 (by decide +kernel) ?_
  refine lv_istore_n (lv' := [(3, .int (iI 0)), (2, .int (iI 0)), (0, .ref (q ta)), (1, .int (iI x1))]) hx hb dX9_rowsWith_3 rfl hl (by decide) rfl (fun ls hl => ?_)
  have L4_4 : ∀ (n9 : Nat) (z1 z2 : Int) (H : Heap) (locs : List Loc) (ls : Array Slot), (0 ≤ z1 ∧ z1 ≤ 2147483647) → (-2147483648 ≤ z2 ∧ z2 ≤ 2147483647) → ((5 - z1).toNat = n9) → va_P (dC, dI) vwCl (WK cB cI cJ cZ cQ q A) H → va_S AS s.heap H locs → lv_has ls 4 [(3, .int (iI z1)), (2, .int (iI z2)), (0, .ref (q ta)), (1, .int (iI x1))] → W p l e (headSpec ws_kc_X9_rowsWith ({ frames := 2, cells := 0, slots := 0, locals := 45 } : Room)).room s m [.ref (q ta), .int (iI x1)].toArray below meth c H locs 0 0 Q (F0 m 4 ls []) := by
    intro n9
    induction n9 using Nat.strongRecOn with
    | ind n9 ih5 =>
      intro z1 z2 H locs ls f6 f7 hn9 hP hS hl
      refine lv_iload_n hx hb dX9_rowsWith_4 rfl (lv_at hl 0 rfl) ?_
      refine lv_aload_n hx hb dX9_rowsWith_5 rfl (lv_at hl 2 rfl) ?_
      refine va_get (D := (dC, dI)) (ci := 9) (v := .ref (q (ta + 1))) (C := RX9) (T := TX9) (N := 16) hx hb hts hiX9 hown hK hP ta (wkT hta) rfl 0 (by decide) (hts _ (List.mem_cons_of_mem _ (wk_in_0 _ (List.mem_of_getElem? (i := 8) rfl)))) (fun _ h9 => h9) rfl dX9_rowsWith_6 ?_
      refine lv_iconst (v := iI 2) hx hb dX9_rowsWith_9 (by decide +kernel) ?_
      refine x_iald (Wf := WK cB cI cJ cZ cQ q) hx hb hK hP (ta + 1) 1 (wkTc hta) rfl (by decide) (by decide) dX9_rowsWith_10 (fun z10 hz10 => ?_)
      have rz10 : (0 : Int) ≤ z10 ∧ z10 ≤ 4 := by rw [hz10]; exact irTc2 hta hI
      refine lv_icmp_ge (tgt := 36) hx hb dX9_rowsWith_11 (by decide) (fun c11 => ?_) (fun c11 => ?_)
      · have c11 : z10 ≤ z1 := (i_le (rb rz10 (by decide) (by decide)) (rb f6 (by decide) (by decide))).mp c11
        refine lv_iload_n hx hb dX9_rowsWith_36 rfl (lv_at hl 1 rfl) ?_
        exact RET z2 _ _ _ _ _ ⟨rfl, f7⟩ hP hS dX9_rowsWith_37
      · have c11 : ¬ z10 ≤ z1 := mt (i_le (rb rz10 (by decide) (by decide)) (rb f6 (by decide) (by decide))).mpr c11
        refine lv_aload_n hx hb dX9_rowsWith_14 rfl (lv_at hl 2 rfl) ?_
        refine va_get (D := (dC, dI)) (ci := 9) (v := .ref (q (ta + 22))) (C := RX9) (T := TX9) (N := 16) hx hb hts hiX9 hown hK hP ta (wkT hta) rfl 14 (by decide) (hts _ (List.mem_cons_of_mem _ (wk_in_0 _ (List.mem_of_getElem? (i := 9) rfl)))) (fun _ h9 => h9) rfl dX9_rowsWith_15 ?_
        refine lv_iload_n hx hb dX9_rowsWith_18 rfl (lv_at hl 0 rfl) ?_
        refine lv_iload_n hx hb dX9_rowsWith_19 rfl (lv_at hl 3 rfl) ?_
        refine k_calli (As := [.int (iI z1), .int (iI x1)]) (rest := []) ⟨hx, hb, hml, hown, hts⟩ hE (kc_X6_placeInRow l dC dI cB cI cJ cZ cQ aL aS q _ (ta + 22) z1 x1 hI hta.s (rb f6 (by decide) (by decide)) hx1) (cwV 2 hts (goodVk (wk_in_8 _ (List.mem_of_getElem? (i := 58) rfl)) (wk_in_4 _ (List.mem_of_getElem? (i := 59) rfl)) (wk_in_5 _ (List.mem_of_getElem? (i := 0) rfl)) (wk_in_0 _ (List.mem_of_getElem? (i := 52) rfl)) (wk_in_5 _ (List.mem_of_getElem? (i := 1) rfl))) rfl rfl rfl (by decide +kernel) ⟨Nat.le_of_ble_eq_true rfl, Nat.le_of_ble_eq_true rfl⟩) hK hDD hA0 hP hS (ta + 22) 6 (wkS hta.s) rfl rfl hl.1 (Nat.le_of_ble_eq_true rfl) dX9_rowsWith_20 (fun z12 A13 H locs hw14 hP hS => ?_)
        obtain ⟨rfl, hw14⟩ := hw14
        refine lv_iconst (v := iI (-1)) hx hb dX9_rowsWith_23 (by decide +kernel) ?_
        have J30_16 : ∀ (z18 : Int) (H : Heap) (locs : List Loc) (ls : Array Slot), (-2147483648 ≤ z18 ∧ z18 ≤ 2147483647) → va_P (dC, dI) vwCl (WK cB cI cJ cZ cQ q A) H → va_S AS s.heap H locs → lv_has ls 4 [(3, .int (iI z1)), (2, .int (iI z18)), (0, .ref (q ta)), (1, .int (iI x1))] → W p l e (headSpec ws_kc_X9_rowsWith ({ frames := 2, cells := 0, slots := 0, locals := 45 } : Room)).room s m [.ref (q ta), .int (iI x1)].toArray below meth c H locs 0 0 Q (F0 m 30 ls []) := by
          intro z18 H locs ls f20 hP hS hl
          refine lv_iinc (v := iI (z1 + 1)) (lv' := [(3, .int (iI (z1 + 1))), (2, .int (iI z18)), (0, .ref (q ta)), (1, .int (iI x1))]) hx hb dX9_rowsWith_30 hl (k := 0) rfl (i_inc (by omega)) (by decide) rfl (fun ls hl => ?_)
          refine lv_goto (tgt := 4) hx hb dX9_rowsWith_33 (by decide) ?_
          exact ih5 _ (by omega) (z1 + 1) z18 _ _ _ (by omega) (by omega) rfl hP hS (lv_sub hl [0, 1, 2, 3] rfl)
        refine lv_icmp_eq (tgt := 30) hx hb dX9_rowsWith_24 (by decide) (fun c15 => ?_) (fun c15 => ?_)
        · have c15 : z12 = (-1) := (i_eq (rb hw14 (by decide) (by decide)) ⟨by decide, by decide⟩).mp c15
          exact J30_16 z2 _ _ _ (by omega) hP hS (lv_sub hl [0, 1, 2, 3] rfl)
        · have c15 : ¬ z12 = (-1) := mt (i_eq (rb hw14 (by decide) (by decide)) ⟨by decide, by decide⟩).mpr c15
          obtain ⟨z17, hz17, ez17⟩ := i_wrap (z2 + 1)
          refine lv_iinc (v := iI z17) (lv' := [(2, .int (iI z17)), (3, .int (iI z1)), (0, .ref (q ta)), (1, .int (iI x1))]) hx hb dX9_rowsWith_27 hl (k := 1) rfl ((i_inc (by omega)).trans ez17) (by decide) rfl (fun ls hl => ?_)
          exact J30_16 z17 _ _ _ (by omega) hP hS (lv_sub hl [1, 0, 2, 3] rfl)
  exact L4_4 _ 0 0 _ _ _ (by omega) (by omega) rfl hP hS (lv_sub hl [0, 1, 2, 3] rfl)

def ws_kc_X9_holdsKey : List Cond := .code yX9_holdsKey cX9_holdsKey 3 (some .boolean) :: WY
set_option maxHeartbeats 4000000 in
set_option maxRecDepth 100000 in
theorem kc_X9_holdsKey (l : Launch) (dC : Nat → ClassId) (dI : Nat → Nat → Nat) (cB cI cJ cZ cQ : ClassId) (aL aS : Nat) (q : Nat → Nat) (A : St) (ta : Nat) (x1 x2 : Int) (hI : IK A) (hta : isT ta) (hx1 : (-2147483648 : Int) ≤ x1 ∧ x1 ≤ 2147483647) (hx2 : (-2147483648 : Int) ≤ x2 ∧ x2 ≤ 2147483647) : KMi l yX9_holdsKey ws_kc_X9_holdsKey ({ frames := 1, cells := 0, slots := 0, locals := 22 } : Room) aL aS (dC, dI) (tyA cB cI cJ cZ cQ) (WK cB cI cJ cZ cQ q) A [.ref (q ta), .int (iI x1), .int (iI x2)] (fun z u => A = u ∧ ((0 ≤ z ∧ z ≤ 1) ∧ (z = 1 → (0 ≤ x1 ∧ x1 ≤ 2) ∧ 0 ≤ x2 ∧ x2 ≤ 3))) := by
  refine k_metz (cc := cX9_holdsKey) (maxL := 3) WK_adr (plainFor_of_name (by decide +kernel)) rfl (Nat.le_of_ble_eq_true rfl) (fun z u h => h.2.1) (fun p e s m below meth c Q AS ls hx hb hml hown hts hK hDD hA0 hE RET H locs hP hS hl => ?_)
  have hown : s.vm.findClass RX9 = some m.cls := hown
  have hl : lv_has ls 3 [(0, .ref (q ta)), (1, .int (iI x1)), (2, .int (iI x2))] := hl
  have hiX9 : ∀ w ∈ u_ws RX9 TX9 16, w ∈ ws_kc_X9_holdsKey := fun w h => List.mem_cons_of_mem _ (wy_layX9 w h)
  have hiX6 : ∀ w ∈ u_ws RX6 TX6 4, w ∈ ws_kc_X9_holdsKey := fun w h => List.mem_cons_of_mem _ (wy_layX6 w h)
  refine lv_aload_n hx hb dX9_holdsKey_0 rfl (lv_at hl 0 rfl) ?_
  refine lv_iconst (v := iI 3) hx hb dX9_holdsKey_1 (by decide +kernel) ?_
  refine lv_iload_n hx hb dX9_holdsKey_2 rfl (lv_at hl 1 rfl) ?_
  refine k_calli (As := [.int (iI 3), .int (iI x1)]) (rest := []) ⟨hx, hb, hml, hown, hts⟩ hE (kc_X9_isThere_1_3 l dC dI cB cI cJ cZ cQ aL aS q _ ta x1 hI hta hx1) (cwV 2 hts (goodVk (wk_in_2 _ (List.mem_of_getElem? (i := 52) rfl)) (wk_in_0 _ (List.mem_of_getElem? (i := 22) rfl)) (wk_in_0 _ (List.mem_of_getElem? (i := 23) rfl)) (wk_in_0 _ (List.mem_of_getElem? (i := 6) rfl)) (wk_in_0 _ (List.mem_of_getElem? (i := 24) rfl))) rfl rfl rfl (by decide +kernel) ⟨Nat.le_of_ble_eq_true rfl, Nat.le_of_ble_eq_true rfl⟩) hK hDD hA0 hP hS ta 9 (wkT hta) rfl rfl hl.1 (Nat.le_of_ble_eq_true rfl) dX9_holdsKey_3 (fun z1 A2 H locs hw3 hP hS => ?_)
  obtain ⟨rfl, hw3⟩ := hw3
  have rz1 : 0 ≤ z1 ∧ z1 ≤ 1 := hw3.1
  have hw3 := hw3.2
  refine lv_if_eq (tgt := 35) hx hb dX9_holdsKey_6 (by decide) (fun c4 => ?_) (fun c4 => ?_)
  · have c4 : z1 = 0 := (i_eq0 (rb rz1 (by decide) (by decide))).mp c4
    clear hw3
    refine lv_iconst (v := iI 0) hx hb dX9_holdsKey_35 (by decide +kernel) ?_
    exact RET 0 _ _ _ _ _ ⟨rfl, by omega⟩ hP hS dX9_holdsKey_36
  · have c4 : ¬ z1 = 0 := mt (i_eq0 (rb rz1 (by decide) (by decide))).mpr c4
    have hw3b := hw3 (by omega)
    clear hw3
    refine lv_aload_n hx hb dX9_holdsKey_9 rfl (lv_at hl 0 rfl) ?_
    refine lv_iconst (v := iI 2) hx hb dX9_holdsKey_10 (by decide +kernel) ?_
    refine lv_iload_n hx hb dX9_holdsKey_11 rfl (lv_at hl 2 rfl) ?_
    refine k_calli (As := [.int (iI 2), .int (iI x2)]) (rest := []) ⟨hx, hb, hml, hown, hts⟩ hE (kc_X9_isThere_1_2 l dC dI cB cI cJ cZ cQ aL aS q _ ta x2 hI hta hx2) (cwV 2 hts (goodVk (wk_in_2 _ (List.mem_of_getElem? (i := 52) rfl)) (wk_in_0 _ (List.mem_of_getElem? (i := 22) rfl)) (wk_in_0 _ (List.mem_of_getElem? (i := 23) rfl)) (wk_in_0 _ (List.mem_of_getElem? (i := 6) rfl)) (wk_in_0 _ (List.mem_of_getElem? (i := 24) rfl))) rfl rfl rfl (by decide +kernel) ⟨Nat.le_of_ble_eq_true rfl, Nat.le_of_ble_eq_true rfl⟩) hK hDD hA0 hP hS ta 9 (wkT hta) rfl rfl hl.1 (Nat.le_of_ble_eq_true rfl) dX9_holdsKey_12 (fun z5 A6 H locs hw7 hP hS => ?_)
    obtain ⟨rfl, hw7⟩ := hw7
    have rz5 : 0 ≤ z5 ∧ z5 ≤ 1 := hw7.1
    have hw7 := hw7.2
    refine lv_if_eq (tgt := 35) hx hb dX9_holdsKey_15 (by decide) (fun c8 => ?_) (fun c8 => ?_)
    · have c8 : z5 = 0 := (i_eq0 (rb rz5 (by decide) (by decide))).mp c8
      clear hw7
      refine lv_iconst (v := iI 0) hx hb dX9_holdsKey_35 (by decide +kernel) ?_
      exact RET 0 _ _ _ _ _ ⟨rfl, by omega⟩ hP hS dX9_holdsKey_36
    · have c8 : ¬ z5 = 0 := mt (i_eq0 (rb rz5 (by decide) (by decide))).mpr c8
      have hw7b := hw7 (by omega)
      clear hw7
      refine lv_aload_n hx hb dX9_holdsKey_18 rfl (lv_at hl 0 rfl) ?_
      refine va_get (D := (dC, dI)) (ci := 9) (v := .ref (q (ta + 22))) (C := RX9) (T := TX9) (N := 16) hx hb hts hiX9 hown hK hP ta (wkT hta) rfl 14 (by decide) (hts _ (List.mem_cons_of_mem _ (wk_in_0 _ (List.mem_of_getElem? (i := 9) rfl)))) (fun _ h9 => h9) rfl dX9_holdsKey_19 ?_
      refine va_get (D := (dC, dI)) (ci := 6) (v := .ref (q ((ta + 22) + 2))) (C := RX6) (T := TX6) (N := 4) hx hb hts hiX6 hown hK hP (ta + 22) (wkS hta.s) rfl 1 (by decide) (hts _ (List.mem_cons_of_mem _ (wk_in_0 _ (List.mem_of_getElem? (i := 10) rfl)))) (fun _ h9 => h9) rfl dX9_holdsKey_22 ?_
      refine lv_iload_n hx hb dX9_holdsKey_25 rfl (lv_at hl 2 rfl) ?_
      refine x_iald (Wf := WK cB cI cJ cZ cQ q) hx hb hK hP ((ta + 22) + 2) 1 (wkSw hta.s) rfl (by omega) (by decide) dX9_holdsKey_26 (fun z9 hz9 => ?_)
      have rz9 : (-2147483648 : Int) ≤ z9 ∧ z9 ≤ 2147483647 := by rw [hz9]; exact irSw hta.s hI
      refine lv_iload_n hx hb dX9_holdsKey_27 rfl (lv_at hl 1 rfl) ?_
      refine lv_icmp_ne (tgt := 35) hx hb dX9_holdsKey_28 (by decide) (fun c10 => ?_) (fun c10 => ?_)
      · have c10 : ¬ z9 = x1 := mt (i_eq rz9 hx1).mpr c10
        refine lv_iconst (v := iI 0) hx hb dX9_holdsKey_35 (by decide +kernel) ?_
        exact RET 0 _ _ _ _ _ ⟨rfl, by omega⟩ hP hS dX9_holdsKey_36
      · have c10 : z9 = x1 := (i_eq rz9 hx1).mp c10
        refine lv_iconst (v := iI 1) hx hb dX9_holdsKey_31 (by decide +kernel) ?_
        refine lv_goto (tgt := 36) hx hb dX9_holdsKey_32 (by decide) ?_
        exact RET 1 _ _ _ _ _ ⟨rfl, by omega⟩ hP hS dX9_holdsKey_36

def ws_kc_X9_isBarred : List Cond := .code yX9_isBarred cX9_isBarred 7 (some .boolean) :: WY
set_option maxHeartbeats 4000000 in
set_option maxRecDepth 100000 in
theorem kc_X9_isBarred (l : Launch) (dC : Nat → ClassId) (dI : Nat → Nat → Nat) (cB cI cJ cZ cQ : ClassId) (aL aS : Nat) (q : Nat → Nat) (A : St) (ta : Nat) (x1 x2 x3 x4 x5 : Int) (hI : IK A) (hta : isT ta) (hx1 : (-2147483648 : Int) ≤ x1 ∧ x1 ≤ 2147483647) (hx2 : (-2147483648 : Int) ≤ x2 ∧ x2 ≤ 2147483647) (hx3 : (-2147483648 : Int) ≤ x3 ∧ x3 ≤ 2147483647) (hx4 : (-2147483648 : Int) ≤ x4 ∧ x4 ≤ 2147483647) (hx5 : (-2147483648 : Int) ≤ x5 ∧ x5 ≤ 2147483647) : KMi l yX9_isBarred ws_kc_X9_isBarred ({ frames := 3, cells := 0, slots := 0, locals := 73 } : Room) aL aS (dC, dI) (tyA cB cI cJ cZ cQ) (WK cB cI cJ cZ cQ q) A [.ref (q ta), .int (iI x1), .int (iI x2), .int (iI x3), .int (iI x4), .int (iI x5)] (fun z u => IK u ∧ fk [72, 103] [] A u ∧ (0 ≤ z ∧ z ≤ 1)) := by
  refine k_metz (cc := cX9_isBarred) (maxL := 7) WK_adr (plainFor_of_name (by decide +kernel)) rfl (Nat.le_of_ble_eq_true rfl) (fun z u h => h.2.2) (fun p e s m below meth c Q AS ls hx hb hml hown hts hK hDD hA0 hE RET H locs hP hS hl => ?_)
  have hown : s.vm.findClass RX9 = some m.cls := hown
  have hl : lv_has ls 7 [(0, .ref (q ta)), (1, .int (iI x1)), (2, .int (iI x2)), (3, .int (iI x3)), (4, .int (iI x4)), (5, .int (iI x5))] := hl
  have hiX9 : ∀ w ∈ u_ws RX9 TX9 16, w ∈ ws_kc_X9_isBarred := fun w h => List.mem_cons_of_mem _ (wy_layX9 w h)
  refine lv_iconst (v := iI 0) hx hb dX9_isBarred_0 (by decide +kernel) ?_
  refine lv_istore (lv' := [(6, .int (iI 0)), (0, .ref (q ta)), (1, .int (iI x1)), (2, .int (iI x2)), (3, .int (iI x3)), (4, .int (iI x4)), (5, .int (iI x5))]) hx hb dX9_isBarred_1 hl (by decide) rfl (fun ls hl => ?_)
  have L3_4 : ∀ (n9 : Nat) (z1 : Int) (A3 : St) (H : Heap) (locs : List Loc) (ls : Array Slot), (0 ≤ z1 ∧ z1 ≤ 2147483647) → ((7 - z1).toNat = n9) → IK A3 → fk [72, 103] [] A A3 → va_P (dC, dI) vwCl (WK cB cI cJ cZ cQ q A3) H → va_S AS s.heap H locs → lv_has ls 7 [(6, .int (iI z1)), (0, .ref (q ta)), (1, .int (iI x1)), (2, .int (iI x2)), (3, .int (iI x3)), (4, .int (iI x4)), (5, .int (iI x5))] → W p l e (headSpec ws_kc_X9_isBarred ({ frames := 3, cells := 0, slots := 0, locals := 73 } : Room)).room s m [.ref (q ta), .int (iI x1), .int (iI x2), .int (iI x3), .int (iI x4), .int (iI x5)].toArray below meth c H locs 0 0 Q (F0 m 3 ls []) := by
    intro n9
    induction n9 using Nat.strongRecOn with
    | ind n9 ih5 =>
      intro z1 A3 H locs ls f6 hn9 hI hj2 hP hS hl
      refine lv_iload hx hb dX9_isBarred_3 (lv_at hl 0 rfl) ?_
      refine lv_aload_n hx hb dX9_isBarred_5 rfl (lv_at hl 1 rfl) ?_
      refine va_get (D := (dC, dI)) (ci := 9) (v := .ref (q (ta + 1))) (C := RX9) (T := TX9) (N := 16) hx hb hts hiX9 hown hK hP ta (wkT hta) rfl 0 (by decide) (hts _ (List.mem_cons_of_mem _ (wk_in_0 _ (List.mem_of_getElem? (i := 8) rfl)))) (fun _ h9 => h9) rfl dX9_isBarred_6 ?_
      refine lv_bipush (v := iI 7) hx hb dX9_isBarred_9 (by decide +kernel) ?_
      have a10 : ∀ k, A3 (ta + 1) k = A (ta + 1) k := fun k => hj2 (ta + 1) k (isT.b2 (o := fun b => List.contains [72, 103] (b + 1)) hta rfl rfl) (isT.b2 (o := fun b => fin2 [] (b + 1) k) hta rfl rfl)
      refine x_iald (Wf := WK cB cI cJ cZ cQ q) hx hb hK hP (ta + 1) 1 (wkTc hta) rfl (by decide) (by decide) dX9_isBarred_11 (fun z11 hz11 => ?_)
      have rz11 : (0 : Int) ≤ z11 ∧ z11 ≤ 6 := by rw [hz11]; exact irTc7 hta hI
      have hz11 : z11 = A (ta + 1) (7 : Int).toNat := hz11.trans (a10 _)
      refine lv_icmp_ge (tgt := 64) hx hb dX9_isBarred_12 (by decide) (fun c12 => ?_) (fun c12 => ?_)
      · have c12 : z11 ≤ z1 := (i_le (rb rz11 (by decide) (by decide)) (rb f6 (by decide) (by decide))).mp c12
        refine lv_iconst (v := iI 0) hx hb dX9_isBarred_64 (by decide +kernel) ?_
        exact RET 0 _ _ _ _ _ ⟨hI, fk.trans (fk.rf) hj2 rfl rfl, ⟨by decide, by decide⟩⟩ hP hS dX9_isBarred_65
      · have c12 : ¬ z11 ≤ z1 := mt (i_le (rb rz11 (by decide) (by decide)) (rb f6 (by decide) (by decide))).mpr c12
        refine lv_aload_n hx hb dX9_isBarred_15 rfl (lv_at hl 1 rfl) ?_
        refine va_get (D := (dC, dI)) (ci := 9) (v := .ref (q (ta + 16))) (C := RX9) (T := TX9) (N := 16) hx hb hts hiX9 hown hK hP ta (wkT hta) rfl 10 (by decide) (hts _ (List.mem_cons_of_mem _ (wk_in_8 _ (List.mem_of_getElem? (i := 25) rfl)))) (fun _ h9 => h9) rfl dX9_isBarred_16 ?_
        refine lv_iload hx hb dX9_isBarred_19 (lv_at hl 0 rfl) ?_
        have a13 : ∀ k, A3 (ta + 16) k = A (ta + 16) k := fun k => hj2 (ta + 16) k (isT.b2 (o := fun b => List.contains [72, 103] (b + 16)) hta rfl rfl) (isT.b2 (o := fun b => fin2 [] (b + 16) k) hta rfl rfl)
        refine x_iald (Wf := WK cB cI cJ cZ cQ q) hx hb hK hP (ta + 16) 1 (wkTbd hta) rfl (by omega) (by decide) dX9_isBarred_21 (fun z14 hz14 => ?_)
        have rz14 : (-2147483648 : Int) ≤ z14 ∧ z14 ≤ 2147483647 := by rw [hz14]; exact irTbd hta hI
        have hz14 : z14 = A (ta + 16) (z1).toNat := hz14.trans (a13 _)
        refine lv_iload_n hx hb dX9_isBarred_22 rfl (lv_at hl 2 rfl) ?_
        have J58_16 : ∀ (A27 : St) (H : Heap) (locs : List Loc) (ls : Array Slot), IK A27 → fk [72, 103] [] A3 A27 → va_P (dC, dI) vwCl (WK cB cI cJ cZ cQ q A27) H → va_S AS s.heap H locs → lv_has ls 7 [(6, .int (iI z1)), (0, .ref (q ta)), (1, .int (iI x1)), (2, .int (iI x2)), (3, .int (iI x3)), (4, .int (iI x4)), (5, .int (iI x5))] → W p l e (headSpec ws_kc_X9_isBarred ({ frames := 3, cells := 0, slots := 0, locals := 73 } : Room)).room s m [.ref (q ta), .int (iI x1), .int (iI x2), .int (iI x3), .int (iI x4), .int (iI x5)].toArray below meth c H locs 0 0 Q (F0 m 58 ls []) := by
          intro A27 H locs ls hI hj26 hP hS hl
          refine lv_iinc (v := iI (z1 + 1)) (lv' := [(6, .int (iI (z1 + 1))), (0, .ref (q ta)), (1, .int (iI x1)), (2, .int (iI x2)), (3, .int (iI x3)), (4, .int (iI x4)), (5, .int (iI x5))]) hx hb dX9_isBarred_58 hl (k := 0) rfl (i_inc (by omega)) (by decide) rfl (fun ls hl => ?_)
          refine lv_goto (tgt := 3) hx hb dX9_isBarred_61 (by decide) ?_
          exact ih5 _ (by omega) (z1 + 1) _ _ _ _ (by omega) rfl hI (fk.trans (fk.trans (fk.rf) hj2 rfl rfl) hj26 rfl rfl) hP hS (lv_sub hl [0, 1, 2, 3, 4, 5, 6] rfl)
        refine lv_icmp_ne (tgt := 58) hx hb dX9_isBarred_23 (by decide) (fun c15 => ?_) (fun c15 => ?_)
        · have c15 : ¬ z14 = x1 := mt (i_eq rz14 hx1).mpr c15
          exact J58_16 _ _ _ _ hI (fk.rf) hP hS (lv_sub hl [0, 1, 2, 3, 4, 5, 6] rfl)
        · have c15 : z14 = x1 := (i_eq rz14 hx1).mp c15
          refine lv_aload_n hx hb dX9_isBarred_26 rfl (lv_at hl 1 rfl) ?_
          refine va_get (D := (dC, dI)) (ci := 9) (v := .ref (q (ta + 19))) (C := RX9) (T := TX9) (N := 16) hx hb hts hiX9 hown hK hP ta (wkT hta) rfl 13 (by decide) (hts _ (List.mem_cons_of_mem _ (wk_in_5 _ (List.mem_of_getElem? (i := 16) rfl)))) (fun _ h9 => h9) rfl dX9_isBarred_27 ?_
          refine lv_aload_n hx hb dX9_isBarred_30 rfl (lv_at hl 1 rfl) ?_
          refine va_get (D := (dC, dI)) (ci := 9) (v := .ref (q (ta + 17))) (C := RX9) (T := TX9) (N := 16) hx hb hts hiX9 hown hK hP ta (wkT hta) rfl 11 (by decide) (hts _ (List.mem_cons_of_mem _ (wk_in_8 _ (List.mem_of_getElem? (i := 26) rfl)))) (fun _ h9 => h9) rfl dX9_isBarred_31 ?_
          refine lv_iload hx hb dX9_isBarred_34 (lv_at hl 0 rfl) ?_
          have a17 : ∀ k, A3 (ta + 17) k = A (ta + 17) k := fun k => hj2 (ta + 17) k (isT.b2 (o := fun b => List.contains [72, 103] (b + 17)) hta rfl rfl) (isT.b2 (o := fun b => fin2 [] (b + 17) k) hta rfl rfl)
          refine x_iald (Wf := WK cB cI cJ cZ cQ q) hx hb hK hP (ta + 17) 1 (wkTbf hta) rfl (by omega) (by decide) dX9_isBarred_36 (fun z18 hz18 => ?_)
          have rz18 : (-2147483648 : Int) ≤ z18 ∧ z18 ≤ 2147483647 := by rw [hz18]; exact irTbf hta hI
          have hz18 : z18 = A (ta + 17) (z1).toNat := hz18.trans (a17 _)
          refine lv_aload_n hx hb dX9_isBarred_37 rfl (lv_at hl 1 rfl) ?_
          refine va_get (D := (dC, dI)) (ci := 9) (v := .ref (q (ta + 18))) (C := RX9) (T := TX9) (N := 16) hx hb hts hiX9 hown hK hP ta (wkT hta) rfl 12 (by decide) (hts _ (List.mem_cons_of_mem _ (wk_in_8 _ (List.mem_of_getElem? (i := 27) rfl)))) (fun _ h9 => h9) rfl dX9_isBarred_38 ?_
          refine lv_iload hx hb dX9_isBarred_41 (lv_at hl 0 rfl) ?_
          have a19 : ∀ k, A3 (ta + 18) k = A (ta + 18) k := fun k => hj2 (ta + 18) k (isT.b2 (o := fun b => List.contains [72, 103] (b + 18)) hta rfl rfl) (isT.b2 (o := fun b => fin2 [] (b + 18) k) hta rfl rfl)
          refine x_iald (Wf := WK cB cI cJ cZ cQ q) hx hb hK hP (ta + 18) 1 (wkTbt hta) rfl (by omega) (by decide) dX9_isBarred_43 (fun z20 hz20 => ?_)
          have rz20 : (-2147483648 : Int) ≤ z20 ∧ z20 ≤ 2147483647 := by rw [hz20]; exact irTbt hta hI
          have hz20 : z20 = A (ta + 18) (z1).toNat := hz20.trans (a19 _)
          refine lv_iload_n hx hb dX9_isBarred_44 rfl (lv_at hl 3 rfl) ?_
          refine lv_iload_n hx hb dX9_isBarred_45 rfl (lv_at hl 4 rfl) ?_
          refine lv_iload hx hb dX9_isBarred_46 (lv_at hl 5 rfl) ?_
          refine lv_iload hx hb dX9_isBarred_48 (lv_at hl 6 rfl) ?_
          refine k_calli (As := [.int (iI z18), .int (iI z20), .int (iI x2), .int (iI x3), .int (iI x4), .int (iI x5)]) (rest := []) ⟨hx, hb, hml, hown, hts⟩ hE (kc_X8_holds l dC dI cB cI cJ cZ cQ aL aS q _ (ta + 19) z18 z20 x2 x3 x4 x5 hI hta.e rz18 rz20 hx2 hx3 hx4 hx5) (cwV 6 hts (goodVk (wk_in_9 _ (List.mem_of_getElem? (i := 1) rfl)) (wk_in_1 _ (List.mem_of_getElem? (i := 33) rfl)) (wk_in_1 _ (List.mem_of_getElem? (i := 34) rfl)) (wk_in_1 _ (List.mem_of_getElem? (i := 35) rfl)) (wk_in_1 _ (List.mem_of_getElem? (i := 36) rfl))) rfl rfl rfl (by decide +kernel) ⟨Nat.le_of_ble_eq_true rfl, Nat.le_of_ble_eq_true rfl⟩) hK hDD hA0 hP hS (ta + 19) 8 (wkE hta.e) rfl rfl hl.1 (Nat.le_of_ble_eq_true rfl) dX9_isBarred_50 (fun z21 A22 H locs hw23 hP hS => ?_)
          obtain ⟨hI, hf24, hw23⟩ := hw23
          refine lv_if_eq (tgt := 58) hx hb dX9_isBarred_53 (by decide) (fun c25 => ?_) (fun c25 => ?_)
          · have c25 : z21 = 0 := (i_eq0 (rb hw23 (by decide) (by decide))).mp c25
            exact J58_16 _ _ _ _ hI (fk.trans (fk.rf) hf24 rfl rfl) hP hS (lv_sub hl [0, 1, 2, 3, 4, 5, 6] rfl)
          · have c25 : ¬ z21 = 0 := mt (i_eq0 (rb hw23 (by decide) (by decide))).mpr c25
            refine lv_iconst (v := iI 1) hx hb dX9_isBarred_56 (by decide +kernel) ?_
            exact RET 1 _ _ _ _ _ ⟨hI, fk.trans (fk.trans (fk.rf) hj2 rfl rfl) hf24 rfl rfl, ⟨by decide, by decide⟩⟩ hP hS dX9_isBarred_57
  exact L3_4 _ 0 _ _ _ _ (by omega) rfl hI (fk.rf) hP hS (lv_sub hl [0, 1, 2, 3, 4, 5, 6] rfl)
