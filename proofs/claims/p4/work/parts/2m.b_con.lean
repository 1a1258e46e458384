def ws_kc_X11_letter : List Cond := .code yX11_letter cX11_letter 5 (some .int) :: WY
set_option maxHeartbeats 4000000 in
set_option maxRecDepth 100000 in
theorem kc_X11_letter (l : Launch) (dC : Nat → ClassId) (dI : Nat → Nat → Nat) (cB cI cJ cZ cQ : ClassId) (aL aS : Nat) (q : Nat → Nat) (A : St) (x1 x2 x3 : Int) (hI : IK A) (hx1 : (-2147483648 : Int) ≤ x1 ∧ x1 ≤ 2147483647) (hx2 : (-2147483648 : Int) ≤ x2 ∧ x2 ≤ 2147483647) (hx3 : (-2147483648 : Int) ≤ x3 ∧ x3 ≤ 2147483647) : KMi l yX11_letter ws_kc_X11_letter ({ frames := 1, cells := 0, slots := 0, locals := 22 } : Room) aL aS (dC, dI) (tyA cB cI cJ cZ cQ) (WK cB cI cJ cZ cQ q) A [.ref (q 0), .int (iI x1), .int (iI x2), .int (iI x3)] (fun z u => A = u ∧ (-2147483648 ≤ z ∧ z ≤ 2147483647)) := by
  refine k_meti (cc := cX11_letter) (maxL := 5) WK_adr (plainFor_of_name (by decide +kernel)) rfl (Nat.le_of_ble_eq_true rfl) (fun p e s m below meth c Q AS ls hx hb hml hown hts hK hDD hA0 hE RET H locs hP hS hl => ?_)
  have hown : s.vm.findClass RX11 = some m.cls := hown
  have hl : lv_has ls 5 [(0, .ref (q 0)), (1, .int (iI x1)), (2, .int (iI x2)), (3, .int (iI x3))] := hl
  have hiX11 : ∀ w ∈ u_ws RX11 TX11 11, w ∈ ws_kc_X11_letter := fun w h => List.mem_cons_of_mem _ (wy_layX11 w h)
  have hiX9 : ∀ w ∈ u_ws RX9 TX9 16, w ∈ ws_kc_X11_letter := fun w h => List.mem_cons_of_mem _ (wy_layX9 w h)
  refine lv_iload_n hx hb dX11_letter_0 rfl (lv_at hl 1 rfl) ?_
  refine lv_if_lt (tgt := 31) hx hb dX11_letter_1 (by decide) (fun c1 => ?_) (fun c1 => ?_)
  · have c1 : x1 < 0 := (i_lt0 hx1).mp c1
    refine lv_iconst (v := iI (-1)) hx hb dX11_letter_31 (by decide +kernel) ?_
    exact RET (-1) _ _ _ _ _ ⟨rfl, ⟨by decide, by decide⟩⟩ hP hS dX11_letter_32
  · have c1 : ¬ x1 < 0 := mt (i_lt0 hx1).mpr c1
    refine lv_iload_n hx hb dX11_letter_4 rfl (lv_at hl 1 rfl) ?_
    refine lv_iconst (v := iI 5) hx hb dX11_letter_5 (by decide +kernel) ?_
    refine lv_icmp_ge (tgt := 31) hx hb dX11_letter_6 (by decide) (fun c2 => ?_) (fun c2 => ?_)
    · have c2 : 5 ≤ x1 := (i_le ⟨by decide, by decide⟩ hx1).mp c2
      refine lv_iconst (v := iI (-1)) hx hb dX11_letter_31 (by decide +kernel) ?_
      exact RET (-1) _ _ _ _ _ ⟨rfl, ⟨by decide, by decide⟩⟩ hP hS dX11_letter_32
    · have c2 : ¬ 5 ≤ x1 := mt (i_le ⟨by decide, by decide⟩ hx1).mpr c2
      refine lv_aload_n hx hb dX11_letter_9 rfl (lv_at hl 0 rfl) ?_
      have r3 : (0 : Int) ≤ (A 0 9) ∧ (A 0 9) ≤ 1 := irK_9 hI
      obtain ⟨t4, et4⟩ : ∃ t : Nat, t = 51 + 31 * ((A 0 9)).toNat := ⟨_, rfl⟩
      have ht4 : isT t4 := by rw [et4]; exact isT.b r3
      refine va_get (D := (dC, dI)) (ci := 11) (v := .ref (q (51 + 31 * (A 0 9).toNat))) (C := RX11) (T := TX11) (N := 11) hx hb hts hiX11 hown hK hP 0 (wkK) rfl 9 (by decide) (hts _ (List.mem_cons_of_mem _ (wk_in_10 _ (List.mem_of_getElem? (i := 36) rfl)))) (fun _ h9 => h9) rfl dX11_letter_10 ?_
      refine tp_v (y := .ref (q t4)) (by rw [et4]) ?_
      refine lv_iload_n hx hb dX11_letter_13 rfl (lv_at hl 1 rfl) ?_
      refine lv_iload_n hx hb dX11_letter_14 rfl (lv_at hl 2 rfl) ?_
      refine k_calli (As := [.int (iI x1), .int (iI x2)]) (rest := []) ⟨hx, hb, hml, hown, hts⟩ hE (kc_X9_isThere l dC dI cB cI cJ cZ cQ aL aS q _ t4 x1 x2 hI ht4 hx1 hx2) (cwV 2 hts (goodVk (wk_in_10 _ (List.mem_of_getElem? (i := 54) rfl)) (wk_in_0 _ (List.mem_of_getElem? (i := 22) rfl)) (wk_in_0 _ (List.mem_of_getElem? (i := 23) rfl)) (wk_in_0 _ (List.mem_of_getElem? (i := 6) rfl)) (wk_in_0 _ (List.mem_of_getElem? (i := 24) rfl))) rfl rfl rfl (by decide +kernel) ⟨Nat.le_of_ble_eq_true rfl, Nat.le_of_ble_eq_true rfl⟩) hK hDD hA0 hP hS t4 9 (wkT ht4) rfl rfl hl.1 (Nat.le_of_ble_eq_true rfl) dX11_letter_15 (fun z5 A6 H locs hw7 hP hS => ?_)
      obtain ⟨rfl, hw7⟩ := hw7
      have rz5 : 0 ≤ z5 ∧ z5 ≤ 1 := hw7.1
      have hw7 := hw7.2
      refine lv_if_eq (tgt := 31) hx hb dX11_letter_18 (by decide) (fun c8 => ?_) (fun c8 => ?_)
      · have c8 : z5 = 0 := (i_eq0 (rb rz5 (by decide) (by decide))).mp c8
        clear hw7
        refine lv_iconst (v := iI (-1)) hx hb dX11_letter_31 (by decide +kernel) ?_
        exact RET (-1) _ _ _ _ _ ⟨rfl, ⟨by decide, by decide⟩⟩ hP hS dX11_letter_32
      · have c8 : ¬ z5 = 0 := mt (i_eq0 (rb rz5 (by decide) (by decide))).mpr c8
        have hw7b := hw7 (by omega)
        clear hw7
        refine lv_iload_n hx hb dX11_letter_21 rfl (lv_at hl 3 rfl) ?_
        refine lv_if_lt (tgt := 31) hx hb dX11_letter_22 (by decide) (fun c9 => ?_) (fun c9 => ?_)
        · have c9 : x3 < 0 := (i_lt0 hx3).mp c9
          refine lv_iconst (v := iI (-1)) hx hb dX11_letter_31 (by decide +kernel) ?_
          exact RET (-1) _ _ _ _ _ ⟨rfl, ⟨by decide, by decide⟩⟩ hP hS dX11_letter_32
        · have c9 : ¬ x3 < 0 := mt (i_lt0 hx3).mpr c9
          refine lv_iload_n hx hb dX11_letter_25 rfl (lv_at hl 3 rfl) ?_
          refine lv_bipush (v := iI 6) hx hb dX11_letter_26 (by decide +kernel) ?_
          refine lv_icmp_lt (tgt := 33) hx hb dX11_letter_28 (by decide) (fun c10 => ?_) (fun c10 => ?_)
          · have c10 : x3 < 6 := (i_lt hx3 ⟨by decide, by decide⟩).mp c10
            refine lv_aload_n hx hb dX11_letter_33 rfl (lv_at hl 0 rfl) ?_
            refine va_get (D := (dC, dI)) (ci := 11) (v := .ref (q (51 + 31 * (A 0 9).toNat))) (C := RX11) (T := TX11) (N := 11) hx hb hts hiX11 hown hK hP 0 (wkK) rfl 9 (by decide) (hts _ (List.mem_cons_of_mem _ (wk_in_10 _ (List.mem_of_getElem? (i := 36) rfl)))) (fun _ h9 => h9) rfl dX11_letter_34 ?_
            refine tp_v (y := .ref (q t4)) (by rw [et4]) ?_
            refine va_get (D := (dC, dI)) (ci := 9) (v := .ref (q (t4 + 2))) (C := RX9) (T := TX9) (N := 16) hx hb hts hiX9 hown hK hP t4 (wkT ht4) rfl 1 (by decide) (hts _ (List.mem_cons_of_mem _ (wk_in_10 _ (List.mem_of_getElem? (i := 53) rfl)))) (fun _ h9 => h9) rfl dX11_letter_37 ?_
            refine lv_iload_n hx hb dX11_letter_40 rfl (lv_at hl 1 rfl) ?_
            refine k_aald (Wf := WK cB cI cJ cZ cQ q) hx hb hK hP (t4 + 2) 4 (wkTq ht4) rfl (by omega) (by decide) (b := q (t4 + 3 + (x1).toNat)) (by rcases (show x1 = 0 ∨ x1 = 1 ∨ x1 = 2 ∨ x1 = 3 ∨ x1 = 4 by omega) with h | h | h | h | h <;> rw [h] <;> rfl) dX11_letter_41 ?_
            refine lv_iload_n hx hb dX11_letter_42 rfl (lv_at hl 2 rfl) ?_
            refine x_iald (Wf := WK cB cI cJ cZ cQ q) hx hb hK hP (t4 + 3 + (x1).toNat) 1 (wkTn ht4 (i := x1) (by omega)) rfl (by omega) (by decide) dX11_letter_43 (fun z11 hz11 => ?_)
            have rz11 : (-2147483648 : Int) ≤ z11 ∧ z11 ≤ 2147483647 := by rw [hz11]; exact irTn ht4 (i := x1) (by omega) hI
            refine lv_iconst (v := iI 5) hx hb dX11_letter_44 (by decide +kernel) ?_
            refine lv_iload_n hx hb dX11_letter_45 rfl (lv_at hl 3 rfl) ?_
            refine x_mulv (v := 5 * x3) hx hb dX11_letter_46 (by omega) ?_
            refine lv_ishr hx hb dX11_letter_47 ?_
            refine x_abs (fun z12 hz12 => ?_)
            refine lv_bipush (v := iI 31) hx hb dX11_letter_48 (by decide +kernel) ?_
            refine lv_iand hx hb dX11_letter_50 ?_
            refine x_and (b := 31) (by omega) (fun z13 hz13 => ?_)
            refine lv_istore (lv' := [(4, .int (iI z13)), (0, .ref (q 0)), (1, .int (iI x1)), (2, .int (iI x2)), (3, .int (iI x3))]) hx hb dX11_letter_51 hl (by decide) rfl (fun ls hl => ?_)
            refine lv_iload hx hb dX11_letter_53 (lv_at hl 0 rfl) ?_
            refine lv_if_ne (tgt := 62) hx hb dX11_letter_55 (by decide) (fun c14 => ?_) (fun c14 => ?_)
            · have c14 : ¬ z13 = 0 := mt (i_eq0 (by omega)).mpr c14
              refine lv_iload hx hb dX11_letter_62 (lv_at hl 0 rfl) ?_
              refine lv_bipush (v := iI 96) hx hb dX11_letter_64 (by decide +kernel) ?_
              refine x_addv (v := z13 + 96) hx hb dX11_letter_66 (by omega) ?_
              exact RET (z13 + 96) _ _ _ _ _ ⟨rfl, (by omega)⟩ hP hS dX11_letter_67
            · have c14 : z13 = 0 := (i_eq0 (by omega)).mp c14
              refine lv_iconst (v := iI (-1)) hx hb dX11_letter_58 (by decide +kernel) ?_
              refine lv_goto (tgt := 67) hx hb dX11_letter_59 (by decide) ?_
              exact RET (-1) _ _ _ _ _ ⟨rfl, ⟨by decide, by decide⟩⟩ hP hS dX11_letter_67
          · have c10 : ¬ x3 < 6 := mt (i_lt hx3 ⟨by decide, by decide⟩).mpr c10
            refine lv_iconst (v := iI (-1)) hx hb dX11_letter_31 (by decide +kernel) ?_
            exact RET (-1) _ _ _ _ _ ⟨rfl, ⟨by decide, by decide⟩⟩ hP hS dX11_letter_32

def ws_kc_X11_door : List Cond := .code yX11_door cX11_door 3 (some .int) :: WY
set_option maxHeartbeats 4000000 in
set_option maxRecDepth 100000 in
theorem kc_X11_door (l : Launch) (dC : Nat → ClassId) (dI : Nat → Nat → Nat) (cB cI cJ cZ cQ : ClassId) (aL aS : Nat) (q : Nat → Nat) (A : St) (x1 x2 : Int) (hI : IK A) (hx1 : (-2147483648 : Int) ≤ x1 ∧ x1 ≤ 2147483647) (hx2 : (-2147483648 : Int) ≤ x2 ∧ x2 ≤ 2147483647) : KMi l yX11_door ws_kc_X11_door ({ frames := 3, cells := 0, slots := 0, locals := 68 } : Room) aL aS (dC, dI) (tyA cB cI cJ cZ cQ) (WK cB cI cJ cZ cQ q) A [.ref (q 0), .int (iI x1), .int (iI x2)] (fun z u => A = u ∧ (-2147483648 ≤ z ∧ z ≤ 2147483647)) := by
  refine k_meti (cc := cX11_door) (maxL := 3) WK_adr (plainFor_of_name (by decide +kernel)) rfl (Nat.le_of_ble_eq_true rfl) (fun p e s m below meth c Q AS ls hx hb hml hown hts hK hDD hA0 hE RET H locs hP hS hl => ?_)
  have hown : s.vm.findClass RX11 = some m.cls := hown
  have hl : lv_has ls 3 [(0, .ref (q 0)), (1, .int (iI x1)), (2, .int (iI x2))] := hl
  have hiX11 : ∀ w ∈ u_ws RX11 TX11 11, w ∈ ws_kc_X11_door := fun w h => List.mem_cons_of_mem _ (wy_layX11 w h)
  have hiX9 : ∀ w ∈ u_ws RX9 TX9 16, w ∈ ws_kc_X11_door := fun w h => List.mem_cons_of_mem _ (wy_layX9 w h)
  refine lv_aload_n hx hb dX11_door_0 rfl (lv_at hl 0 rfl) ?_
  have r1 : (0 : Int) ≤ (A 0 9) ∧ (A 0 9) ≤ 1 := irK_9 hI
  obtain ⟨t2, et2⟩ : ∃ t : Nat, t = 51 + 31 * ((A 0 9)).toNat := ⟨_, rfl⟩
  have ht2 : isT t2 := by rw [et2]; exact isT.b r1
  refine va_get (D := (dC, dI)) (ci := 11) (v := .ref (q (51 + 31 * (A 0 9).toNat))) (C := RX11) (T := TX11) (N := 11) hx hb hts hiX11 hown hK hP 0 (wkK) rfl 9 (by decide) (hts _ (List.mem_cons_of_mem _ (wk_in_10 _ (List.mem_of_getElem? (i := 36) rfl)))) (fun _ h9 => h9) rfl dX11_door_1 ?_
  refine tp_v (y := .ref (q t2)) (by rw [et2]) ?_
  refine lv_iconst (v := iI 1) hx hb dX11_door_4 (by decide +kernel) ?_
  refine lv_iload_n hx hb dX11_door_5 rfl (lv_at hl 1 rfl) ?_
  refine k_calli (As := [.int (iI 1), .int (iI x1)]) (rest := []) ⟨hx, hb, hml, hown, hts⟩ hE (kc_X9_isThere_1_1 l dC dI cB cI cJ cZ cQ aL aS q _ t2 x1 hI ht2 hx1) (cwV 2 hts (goodVk (wk_in_10 _ (List.mem_of_getElem? (i := 54) rfl)) (wk_in_0 _ (List.mem_of_getElem? (i := 22) rfl)) (wk_in_0 _ (List.mem_of_getElem? (i := 23) rfl)) (wk_in_0 _ (List.mem_of_getElem? (i := 6) rfl)) (wk_in_0 _ (List.mem_of_getElem? (i := 24) rfl))) rfl rfl rfl (by decide +kernel) ⟨Nat.le_of_ble_eq_true rfl, Nat.le_of_ble_eq_true rfl⟩) hK hDD hA0 hP hS t2 9 (wkT ht2) rfl rfl hl.1 (Nat.le_of_ble_eq_true rfl) dX11_door_6 (fun z3 A4 H locs hw5 hP hS => ?_)
  obtain ⟨rfl, hw5⟩ := hw5
  have rz3 : 0 ≤ z3 ∧ z3 ≤ 1 := hw5.1
  have hw5 := hw5.2
  refine lv_if_ne (tgt := 14) hx hb dX11_door_9 (by decide) (fun c6 => ?_) (fun c6 => ?_)
  · have c6 : ¬ z3 = 0 := mt (i_eq0 (rb rz3 (by decide) (by decide))).mpr c6
    have hw5b := hw5 (by omega)
    clear hw5
    refine lv_iload_n hx hb dX11_door_14 rfl (lv_at hl 2 rfl) ?_
    rcases (show (x2 < 0 ∨ 7 < x2) ∨ x2 = 0 ∨ x2 = 1 ∨ x2 = 2 ∨ x2 = 3 ∨ x2 = 4 ∨ x2 = 5 ∨ x2 = 6 ∨ x2 = 7 by omega) with c7 | c7 | c7 | c7 | c7 | c7 | c7 | c7 | c7
    · refine lv_tableOut (tgt := 152) hx hb dX11_door_15 (by rw [iI_toInt hx2]; exact c7) (by decide) ?_
      refine lv_iconst (v := iI (-1)) hx hb dX11_door_152 (by decide +kernel) ?_
      exact RET (-1) _ _ _ _ _ ⟨rfl, ⟨by decide, by decide⟩⟩ hP hS dX11_door_153
    · refine tp_i (y := iI 0) (congrArg iI c7) ?_
      refine lv_tableIn (off := 45) (tgt := 60) hx hb dX11_door_15 (by decide +kernel) (by decide +kernel) (by decide +kernel) (by decide) ?_
      refine lv_aload_n hx hb dX11_door_60 rfl (lv_at hl 0 rfl) ?_
      refine va_get (D := (dC, dI)) (ci := 11) (v := .ref (q (51 + 31 * (A 0 9).toNat))) (C := RX11) (T := TX11) (N := 11) hx hb hts hiX11 hown hK hP 0 (wkK) rfl 9 (by decide) (hts _ (List.mem_cons_of_mem _ (wk_in_10 _ (List.mem_of_getElem? (i := 36) rfl)))) (fun _ h9 => h9) rfl dX11_door_61 ?_
      refine tp_v (y := .ref (q t2)) (by rw [et2]) ?_
      refine va_get (D := (dC, dI)) (ci := 9) (v := .ref (q (t2 + 8))) (C := RX9) (T := TX9) (N := 16) hx hb hts hiX9 hown hK hP t2 (wkT ht2) rfl 2 (by decide) (hts _ (List.mem_cons_of_mem _ (wk_in_10 _ (List.mem_of_getElem? (i := 56) rfl)))) (fun _ h9 => h9) rfl dX11_door_64 ?_
      refine lv_iload_n hx hb dX11_door_67 rfl (lv_at hl 1 rfl) ?_
      refine x_iald (Wf := WK cB cI cJ cZ cQ q) hx hb hK hP (t2 + 8) 1 (wkTf ht2) rfl (by omega) (by decide) dX11_door_68 (fun z8 hz8 => ?_)
      have rz8 : (-2147483648 : Int) ≤ z8 ∧ z8 ≤ 2147483647 := by rw [hz8]; exact irTf ht2 hI
      exact RET z8 _ _ _ _ _ ⟨rfl, rz8⟩ hP hS dX11_door_69
    · refine tp_i (y := iI 1) (congrArg iI c7) ?_
      refine lv_tableIn (off := 55) (tgt := 70) hx hb dX11_door_15 (by decide +kernel) (by decide +kernel) (by decide +kernel) (by decide) ?_
      refine lv_aload_n hx hb dX11_door_70 rfl (lv_at hl 0 rfl) ?_
      refine va_get (D := (dC, dI)) (ci := 11) (v := .ref (q (51 + 31 * (A 0 9).toNat))) (C := RX11) (T := TX11) (N := 11) hx hb hts hiX11 hown hK hP 0 (wkK) rfl 9 (by decide) (hts _ (List.mem_cons_of_mem _ (wk_in_10 _ (List.mem_of_getElem? (i := 36) rfl)))) (fun _ h9 => h9) rfl dX11_door_71 ?_
      refine tp_v (y := .ref (q t2)) (by rw [et2]) ?_
      refine va_get (D := (dC, dI)) (ci := 9) (v := .ref (q (t2 + 9))) (C := RX9) (T := TX9) (N := 16) hx hb hts hiX9 hown hK hP t2 (wkT ht2) rfl 3 (by decide) (hts _ (List.mem_cons_of_mem _ (wk_in_10 _ (List.mem_of_getElem? (i := 57) rfl)))) (fun _ h9 => h9) rfl dX11_door_74 ?_
      refine lv_iload_n hx hb dX11_door_77 rfl (lv_at hl 1 rfl) ?_
      refine x_iald (Wf := WK cB cI cJ cZ cQ q) hx hb hK hP (t2 + 9) 1 (wkTs ht2) rfl (by omega) (by decide) dX11_door_78 (fun z9 hz9 => ?_)
      have rz9 : (-2147483648 : Int) ≤ z9 ∧ z9 ≤ 2147483647 := by rw [hz9]; exact irTs ht2 hI
      exact RET z9 _ _ _ _ _ ⟨rfl, rz9⟩ hP hS dX11_door_79
    · refine tp_i (y := iI 2) (congrArg iI c7) ?_
      refine lv_tableIn (off := 65) (tgt := 80) hx hb dX11_door_15 (by decide +kernel) (by decide +kernel) (by decide +kernel) (by decide) ?_
      refine lv_aload_n hx hb dX11_door_80 rfl (lv_at hl 0 rfl) ?_
      refine va_get (D := (dC, dI)) (ci := 11) (v := .ref (q (51 + 31 * (A 0 9).toNat))) (C := RX11) (T := TX11) (N := 11) hx hb hts hiX11 hown hK hP 0 (wkK) rfl 9 (by decide) (hts _ (List.mem_cons_of_mem _ (wk_in_10 _ (List.mem_of_getElem? (i := 36) rfl)))) (fun _ h9 => h9) rfl dX11_door_81 ?_
      refine tp_v (y := .ref (q t2)) (by rw [et2]) ?_
      refine lv_iload_n hx hb dX11_door_84 rfl (lv_at hl 1 rfl) ?_
      refine k_calli (As := [.int (iI x1)]) (rest := []) ⟨hx, hb, hml, hown, hts⟩ hE (kc_X9_isBox l dC dI cB cI cJ cZ cQ aL aS q _ t2 x1 hI ht2 hx1) (cwV 1 hts (goodVk (wk_in_11 _ (List.mem_of_getElem? (i := 0) rfl)) (wk_in_1 _ (List.mem_of_getElem? (i := 6) rfl)) (wk_in_1 _ (List.mem_of_getElem? (i := 7) rfl)) (wk_in_0 _ (List.mem_of_getElem? (i := 6) rfl)) (wk_in_1 _ (List.mem_of_getElem? (i := 8) rfl))) rfl rfl rfl (by decide +kernel) ⟨Nat.le_of_ble_eq_true rfl, Nat.le_of_ble_eq_true rfl⟩) hK hDD hA0 hP hS t2 9 (wkT ht2) rfl rfl hl.1 (Nat.le_of_ble_eq_true rfl) dX11_door_85 (fun z10 A11 H locs hw12 hP hS => ?_)
      obtain ⟨rfl, hw12⟩ := hw12
      have hw12 := hw12.2
      have rz10 : 0 ≤ z10 ∧ z10 ≤ 1 := hw12.1
      have hw12 := hw12.2
      refine lv_if_eq (tgt := 95) hx hb dX11_door_88 (by decide) (fun c13 => ?_) (fun c13 => ?_)
      · have c13 : z10 = 0 := (i_eq0 (rb rz10 (by decide) (by decide))).mp c13
        clear hw12
        refine lv_iconst (v := iI 0) hx hb dX11_door_95 (by decide +kernel) ?_
        exact RET 0 _ _ _ _ _ ⟨rfl, ⟨by decide, by decide⟩⟩ hP hS dX11_door_96
      · have c13 : ¬ z10 = 0 := mt (i_eq0 (rb rz10 (by decide) (by decide))).mpr c13
        have hw12b := hw12 (by omega)
        clear hw12
        refine lv_iconst (v := iI 1) hx hb dX11_door_91 (by decide +kernel) ?_
        refine lv_goto (tgt := 96) hx hb dX11_door_92 (by decide) ?_
        exact RET 1 _ _ _ _ _ ⟨rfl, ⟨by decide, by decide⟩⟩ hP hS dX11_door_96
    · refine tp_i (y := iI 3) (congrArg iI c7) ?_
      refine lv_tableIn (off := 82) (tgt := 97) hx hb dX11_door_15 (by decide +kernel) (by decide +kernel) (by decide +kernel) (by decide) ?_
      refine lv_aload_n hx hb dX11_door_97 rfl (lv_at hl 0 rfl) ?_
      refine va_get (D := (dC, dI)) (ci := 11) (v := .ref (q (51 + 31 * (A 0 9).toNat))) (C := RX11) (T := TX11) (N := 11) hx hb hts hiX11 hown hK hP 0 (wkK) rfl 9 (by decide) (hts _ (List.mem_cons_of_mem _ (wk_in_10 _ (List.mem_of_getElem? (i := 36) rfl)))) (fun _ h9 => h9) rfl dX11_door_98 ?_
      refine tp_v (y := .ref (q t2)) (by rw [et2]) ?_
      refine va_get (D := (dC, dI)) (ci := 9) (v := .ref (q (t2 + 10))) (C := RX9) (T := TX9) (N := 16) hx hb hts hiX9 hown hK hP t2 (wkT ht2) rfl 4 (by decide) (hts _ (List.mem_cons_of_mem _ (wk_in_10 _ (List.mem_of_getElem? (i := 58) rfl)))) (fun _ h9 => h9) rfl dX11_door_101 ?_
      refine lv_iload_n hx hb dX11_door_104 rfl (lv_at hl 1 rfl) ?_
      refine x_iald (Wf := WK cB cI cJ cZ cQ q) hx hb hK hP (t2 + 10) 1 (wkTm ht2) rfl (by omega) (by decide) dX11_door_105 (fun z14 hz14 => ?_)
      have rz14 : (-2147483648 : Int) ≤ z14 ∧ z14 ≤ 2147483647 := by rw [hz14]; exact irTm ht2 hI
      exact RET z14 _ _ _ _ _ ⟨rfl, rz14⟩ hP hS dX11_door_106
    · refine tp_i (y := iI 4) (congrArg iI c7) ?_
      refine lv_tableIn (off := 92) (tgt := 107) hx hb dX11_door_15 (by decide +kernel) (by decide +kernel) (by decide +kernel) (by decide) ?_
      refine lv_aload_n hx hb dX11_door_107 rfl (lv_at hl 0 rfl) ?_
      refine va_get (D := (dC, dI)) (ci := 11) (v := .ref (q (51 + 31 * (A 0 9).toNat))) (C := RX11) (T := TX11) (N := 11) hx hb hts hiX11 hown hK hP 0 (wkK) rfl 9 (by decide) (hts _ (List.mem_cons_of_mem _ (wk_in_10 _ (List.mem_of_getElem? (i := 36) rfl)))) (fun _ h9 => h9) rfl dX11_door_108 ?_
      refine tp_v (y := .ref (q t2)) (by rw [et2]) ?_
      refine k_calli (As := []) (rest := []) ⟨hx, hb, hml, hown, hts⟩ hE (kc_X9_shutMask l dC dI cB cI cJ cZ cQ aL aS q _ t2 hI ht2) (cwV 0 hts (goodVk (wk_in_10 _ (List.mem_of_getElem? (i := 47) rfl)) (wk_in_8 _ (List.mem_of_getElem? (i := 55) rfl)) (wk_in_8 _ (List.mem_of_getElem? (i := 56) rfl)) (wk_in_0 _ (List.mem_of_getElem? (i := 6) rfl)) (wk_in_8 _ (List.mem_of_getElem? (i := 50) rfl))) rfl rfl rfl (by decide +kernel) ⟨Nat.le_of_ble_eq_true rfl, Nat.le_of_ble_eq_true rfl⟩) hK hDD hA0 hP hS t2 9 (wkT ht2) rfl rfl hl.1 (Nat.le_of_ble_eq_true rfl) dX11_door_111 (fun z15 A16 H locs hw17 hP hS => ?_)
      obtain ⟨rfl, hw17⟩ := hw17
      refine lv_iload_n hx hb dX11_door_114 rfl (lv_at hl 1 rfl) ?_
      refine lv_ishr hx hb dX11_door_115 ?_
      refine x_abs (fun z18 hz18 => ?_)
      refine lv_iconst (v := iI 1) hx hb dX11_door_116 (by decide +kernel) ?_
      refine lv_iand hx hb dX11_door_117 ?_
      refine x_and (b := 1) (by omega) (fun z19 hz19 => ?_)
      exact RET z19 _ _ _ _ _ ⟨rfl, (by omega)⟩ hP hS dX11_door_118
    · refine tp_i (y := iI 5) (congrArg iI c7) ?_
      refine lv_tableIn (off := 104) (tgt := 119) hx hb dX11_door_15 (by decide +kernel) (by decide +kernel) (by decide +kernel) (by decide) ?_
      refine lv_aload_n hx hb dX11_door_119 rfl (lv_at hl 0 rfl) ?_
      refine va_get (D := (dC, dI)) (ci := 11) (v := .ref (q (51 + 31 * (A 0 9).toNat))) (C := RX11) (T := TX11) (N := 11) hx hb hts hiX11 hown hK hP 0 (wkK) rfl 9 (by decide) (hts _ (List.mem_cons_of_mem _ (wk_in_10 _ (List.mem_of_getElem? (i := 36) rfl)))) (fun _ h9 => h9) rfl dX11_door_120 ?_
      refine tp_v (y := .ref (q t2)) (by rw [et2]) ?_
      refine lv_iload_n hx hb dX11_door_123 rfl (lv_at hl 1 rfl) ?_
      refine k_calli (As := [.int (iI x1)]) (rest := []) ⟨hx, hb, hml, hown, hts⟩ hE (kc_X9_rowsWith l dC dI cB cI cJ cZ cQ aL aS q _ t2 x1 hI ht2 hx1) (cwV 1 hts (goodVk (wk_in_11 _ (List.mem_of_getElem? (i := 1) rfl)) (wk_in_11 _ (List.mem_of_getElem? (i := 2) rfl)) (wk_in_11 _ (List.mem_of_getElem? (i := 3) rfl)) (wk_in_0 _ (List.mem_of_getElem? (i := 6) rfl)) (wk_in_8 _ (List.mem_of_getElem? (i := 57) rfl))) rfl rfl rfl (by decide +kernel) ⟨Nat.le_of_ble_eq_true rfl, Nat.le_of_ble_eq_true rfl⟩) hK hDD hA0 hP hS t2 9 (wkT ht2) rfl rfl hl.1 (Nat.le_of_ble_eq_true rfl) dX11_door_124 (fun z20 A21 H locs hw22 hP hS => ?_)
      obtain ⟨rfl, hw22⟩ := hw22
      exact RET z20 _ _ _ _ _ ⟨rfl, hw22⟩ hP hS dX11_door_127
    · refine tp_i (y := iI 6) (congrArg iI c7) ?_
      refine lv_tableIn (off := 113) (tgt := 128) hx hb dX11_door_15 (by decide +kernel) (by decide +kernel) (by decide +kernel) (by decide) ?_
      refine lv_aload_n hx hb dX11_door_128 rfl (lv_at hl 0 rfl) ?_
      refine va_get (D := (dC, dI)) (ci := 11) (v := .ref (q (51 + 31 * (A 0 9).toNat))) (C := RX11) (T := TX11) (N := 11) hx hb hts hiX11 hown hK hP 0 (wkK) rfl 9 (by decide) (hts _ (List.mem_cons_of_mem _ (wk_in_10 _ (List.mem_of_getElem? (i := 36) rfl)))) (fun _ h9 => h9) rfl dX11_door_129 ?_
      refine tp_v (y := .ref (q t2)) (by rw [et2]) ?_
      have r23 : (-2147483648 : Int) ≤ (A t2 15) ∧ (A t2 15) ≤ 2147483647 := irT_15 ht2 hI
      refine va_get (D := (dC, dI)) (ci := 9) (v := .int (iI (A t2 15))) (C := RX9) (T := TX9) (N := 16) hx hb hts hiX9 hown hK hP t2 (wkT ht2) rfl 15 (by decide) (hts _ (List.mem_cons_of_mem _ (wk_in_10 _ (List.mem_of_getElem? (i := 59) rfl)))) (fun _ h9 => h9) rfl dX11_door_132 ?_
      refine lv_iload_n hx hb dX11_door_135 rfl (lv_at hl 1 rfl) ?_
      refine lv_ishr hx hb dX11_door_136 ?_
      refine x_abs (fun z24 hz24 => ?_)
      refine lv_iconst (v := iI 1) hx hb dX11_door_137 (by decide +kernel) ?_
      refine lv_iand hx hb dX11_door_138 ?_
      refine x_and (b := 1) (by omega) (fun z25 hz25 => ?_)
      exact RET z25 _ _ _ _ _ ⟨rfl, (by omega)⟩ hP hS dX11_door_139
    · refine tp_i (y := iI 7) (congrArg iI c7) ?_
      refine lv_tableIn (off := 125) (tgt := 140) hx hb dX11_door_15 (by decide +kernel) (by decide +kernel) (by decide +kernel) (by decide) ?_
      refine lv_aload_n hx hb dX11_door_140 rfl (lv_at hl 0 rfl) ?_
      refine va_get (D := (dC, dI)) (ci := 11) (v := .ref (q (51 + 31 * (A 0 9).toNat))) (C := RX11) (T := TX11) (N := 11) hx hb hts hiX11 hown hK hP 0 (wkK) rfl 9 (by decide) (hts _ (List.mem_cons_of_mem _ (wk_in_10 _ (List.mem_of_getElem? (i := 36) rfl)))) (fun _ h9 => h9) rfl dX11_door_141 ?_
      refine tp_v (y := .ref (q t2)) (by rw [et2]) ?_
      refine k_calli (As := []) (rest := []) ⟨hx, hb, hml, hown, hts⟩ hE (kc_X9_deadMask l dC dI cB cI cJ cZ cQ aL aS q _ t2 hI ht2) (cwV 0 hts (goodVk (wk_in_10 _ (List.mem_of_getElem? (i := 49) rfl)) (wk_in_10 _ (List.mem_of_getElem? (i := 50) rfl)) (wk_in_10 _ (List.mem_of_getElem? (i := 51) rfl)) (wk_in_0 _ (List.mem_of_getElem? (i := 6) rfl)) (wk_in_8 _ (List.mem_of_getElem? (i := 52) rfl))) rfl rfl rfl (by decide +kernel) ⟨Nat.le_of_ble_eq_true rfl, Nat.le_of_ble_eq_true rfl⟩) hK hDD hA0 hP hS t2 9 (wkT ht2) rfl rfl hl.1 (Nat.le_of_ble_eq_true rfl) dX11_door_144 (fun z26 A27 H locs hw28 hP hS => ?_)
      obtain ⟨rfl, hw28⟩ := hw28
      refine lv_iload_n hx hb dX11_door_147 rfl (lv_at hl 1 rfl) ?_
      refine lv_ishr hx hb dX11_door_148 ?_
      refine x_abs (fun z29 hz29 => ?_)
      refine lv_iconst (v := iI 1) hx hb dX11_door_149 (by decide +kernel) ?_
      refine lv_iand hx hb dX11_door_150 ?_
      refine x_and (b := 1) (by omega) (fun z30 hz30 => ?_)
      exact RET z30 _ _ _ _ _ ⟨rfl, (by omega)⟩ hP hS dX11_door_151
  · have c6 : z3 = 0 := (i_eq0 (rb rz3 (by decide) (by decide))).mp c6
    clear hw5
    refine lv_iconst (v := iI (-1)) hx hb dX11_door_12 (by decide +kernel) ?_
    exact RET (-1) _ _ _ _ _ ⟨rfl, ⟨by decide, by decide⟩⟩ hP hS dX11_door_13

def ws_kc_X11_key : List Cond := .code yX11_key cX11_key 3 (some .int) :: WY
set_option maxHeartbeats 4000000 in
set_option maxRecDepth 100000 in
theorem kc_X11_key (l : Launch) (dC : Nat → ClassId) (dI : Nat → Nat → Nat) (cB cI cJ cZ cQ : ClassId) (aL aS : Nat) (q : Nat → Nat) (A : St) (x1 x2 : Int) (hI : IK A) (hx1 : (-2147483648 : Int) ≤ x1 ∧ x1 ≤ 2147483647) (hx2 : (-2147483648 : Int) ≤ x2 ∧ x2 ≤ 2147483647) : KMi l yX11_key ws_kc_X11_key ({ frames := 2, cells := 0, slots := 0, locals := 43 } : Room) aL aS (dC, dI) (tyA cB cI cJ cZ cQ) (WK cB cI cJ cZ cQ q) A [.ref (q 0), .int (iI x1), .int (iI x2)] (fun z u => A = u ∧ (-2147483648 ≤ z ∧ z ≤ 2147483647)) := by
  refine k_meti (cc := cX11_key) (maxL := 3) WK_adr (plainFor_of_name (by decide +kernel)) rfl (Nat.le_of_ble_eq_true rfl) (fun p e s m below meth c Q AS ls hx hb hml hown hts hK hDD hA0 hE RET H locs hP hS hl => ?_)
  have hown : s.vm.findClass RX11 = some m.cls := hown
  have hl : lv_has ls 3 [(0, .ref (q 0)), (1, .int (iI x1)), (2, .int (iI x2))] := hl
  have hiX11 : ∀ w ∈ u_ws RX11 TX11 11, w ∈ ws_kc_X11_key := fun w h => List.mem_cons_of_mem _ (wy_layX11 w h)
  have hiX9 : ∀ w ∈ u_ws RX9 TX9 16, w ∈ ws_kc_X11_key := fun w h => List.mem_cons_of_mem _ (wy_layX9 w h)
  have hiX6 : ∀ w ∈ u_ws RX6 TX6 4, w ∈ ws_kc_X11_key := fun w h => List.mem_cons_of_mem _ (wy_layX6 w h)
  refine lv_aload_n hx hb dX11_key_0 rfl (lv_at hl 0 rfl) ?_
  have r1 : (0 : Int) ≤ (A 0 9) ∧ (A 0 9) ≤ 1 := irK_9 hI
  obtain ⟨t2, et2⟩ : ∃ t : Nat, t = 51 + 31 * ((A 0 9)).toNat := ⟨_, rfl⟩
  have ht2 : isT t2 := by rw [et2]; exact isT.b r1
  refine va_get (D := (dC, dI)) (ci := 11) (v := .ref (q (51 + 31 * (A 0 9).toNat))) (C := RX11) (T := TX11) (N := 11) hx hb hts hiX11 hown hK hP 0 (wkK) rfl 9 (by decide) (hts _ (List.mem_cons_of_mem _ (wk_in_10 _ (List.mem_of_getElem? (i := 36) rfl)))) (fun _ h9 => h9) rfl dX11_key_1 ?_
  refine tp_v (y := .ref (q t2)) (by rw [et2]) ?_
  refine lv_iconst (v := iI 2) hx hb dX11_key_4 (by decide +kernel) ?_
  refine lv_iload_n hx hb dX11_key_5 rfl (lv_at hl 1 rfl) ?_
  refine k_calli (As := [.int (iI 2), .int (iI x1)]) (rest := []) ⟨hx, hb, hml, hown, hts⟩ hE (kc_X9_isThere_1_2 l dC dI cB cI cJ cZ cQ aL aS q _ t2 x1 hI ht2 hx1) (cwV 2 hts (goodVk (wk_in_10 _ (List.mem_of_getElem? (i := 54) rfl)) (wk_in_0 _ (List.mem_of_getElem? (i := 22) rfl)) (wk_in_0 _ (List.mem_of_getElem? (i := 23) rfl)) (wk_in_0 _ (List.mem_of_getElem? (i := 6) rfl)) (wk_in_0 _ (List.mem_of_getElem? (i := 24) rfl))) rfl rfl rfl (by decide +kernel) ⟨Nat.le_of_ble_eq_true rfl, Nat.le_of_ble_eq_true rfl⟩) hK hDD hA0 hP hS t2 9 (wkT ht2) rfl rfl hl.1 (Nat.le_of_ble_eq_true rfl) dX11_key_6 (fun z3 A4 H locs hw5 hP hS => ?_)
  obtain ⟨rfl, hw5⟩ := hw5
  have rz3 : 0 ≤ z3 ∧ z3 ≤ 1 := hw5.1
  have hw5 := hw5.2
  refine lv_if_ne (tgt := 14) hx hb dX11_key_9 (by decide) (fun c6 => ?_) (fun c6 => ?_)
  · have c6 : ¬ z3 = 0 := mt (i_eq0 (rb rz3 (by decide) (by decide))).mpr c6
    have hw5b := hw5 (by omega)
    clear hw5
    refine lv_iload_n hx hb dX11_key_14 rfl (lv_at hl 2 rfl) ?_
    rcases (show (x2 < 0 ∨ 2 < x2) ∨ x2 = 0 ∨ x2 = 1 ∨ x2 = 2 by omega) with c7 | c7 | c7 | c7
    · refine lv_tableOut (tgt := 78) hx hb dX11_key_15 (by rw [iI_toInt hx2]; exact c7) (by decide) ?_
      refine lv_iconst (v := iI (-1)) hx hb dX11_key_78 (by decide +kernel) ?_
      exact RET (-1) _ _ _ _ _ ⟨rfl, ⟨by decide, by decide⟩⟩ hP hS dX11_key_79
    · refine tp_i (y := iI 0) (congrArg iI c7) ?_
      refine lv_tableIn (off := 25) (tgt := 40) hx hb dX11_key_15 (by decide +kernel) (by decide +kernel) (by decide +kernel) (by decide) ?_
      refine lv_aload_n hx hb dX11_key_40 rfl (lv_at hl 0 rfl) ?_
      refine va_get (D := (dC, dI)) (ci := 11) (v := .ref (q (51 + 31 * (A 0 9).toNat))) (C := RX11) (T := TX11) (N := 11) hx hb hts hiX11 hown hK hP 0 (wkK) rfl 9 (by decide) (hts _ (List.mem_cons_of_mem _ (wk_in_10 _ (List.mem_of_getElem? (i := 36) rfl)))) (fun _ h9 => h9) rfl dX11_key_41 ?_
      refine tp_v (y := .ref (q t2)) (by rw [et2]) ?_
      refine va_get (D := (dC, dI)) (ci := 9) (v := .ref (q (t2 + 22))) (C := RX9) (T := TX9) (N := 16) hx hb hts hiX9 hown hK hP t2 (wkT ht2) rfl 14 (by decide) (hts _ (List.mem_cons_of_mem _ (wk_in_11 _ (List.mem_of_getElem? (i := 5) rfl)))) (fun _ h9 => h9) rfl dX11_key_44 ?_
      refine va_get (D := (dC, dI)) (ci := 6) (v := .ref (q ((t2 + 22) + 2))) (C := RX6) (T := TX6) (N := 4) hx hb hts hiX6 hown hK hP (t2 + 22) (wkS ht2.s) rfl 1 (by decide) (hts _ (List.mem_cons_of_mem _ (wk_in_11 _ (List.mem_of_getElem? (i := 6) rfl)))) (fun _ h9 => h9) rfl dX11_key_47 ?_
      refine lv_iload_n hx hb dX11_key_50 rfl (lv_at hl 1 rfl) ?_
      refine x_iald (Wf := WK cB cI cJ cZ cQ q) hx hb hK hP ((t2 + 22) + 2) 1 (wkSw ht2.s) rfl (by omega) (by decide) dX11_key_51 (fun z8 hz8 => ?_)
      have rz8 : (-2147483648 : Int) ≤ z8 ∧ z8 ≤ 2147483647 := by rw [hz8]; exact irSw ht2.s hI
      exact RET z8 _ _ _ _ _ ⟨rfl, rz8⟩ hP hS dX11_key_52
    · refine tp_i (y := iI 1) (congrArg iI c7) ?_
      refine lv_tableIn (off := 38) (tgt := 53) hx hb dX11_key_15 (by decide +kernel) (by decide +kernel) (by decide +kernel) (by decide) ?_
      refine lv_aload_n hx hb dX11_key_53 rfl (lv_at hl 0 rfl) ?_
      refine va_get (D := (dC, dI)) (ci := 11) (v := .ref (q (51 + 31 * (A 0 9).toNat))) (C := RX11) (T := TX11) (N := 11) hx hb hts hiX11 hown hK hP 0 (wkK) rfl 9 (by decide) (hts _ (List.mem_cons_of_mem _ (wk_in_10 _ (List.mem_of_getElem? (i := 36) rfl)))) (fun _ h9 => h9) rfl dX11_key_54 ?_
      refine tp_v (y := .ref (q t2)) (by rw [et2]) ?_
      refine va_get (D := (dC, dI)) (ci := 9) (v := .ref (q (t2 + 22))) (C := RX9) (T := TX9) (N := 16) hx hb hts hiX9 hown hK hP t2 (wkT ht2) rfl 14 (by decide) (hts _ (List.mem_cons_of_mem _ (wk_in_11 _ (List.mem_of_getElem? (i := 5) rfl)))) (fun _ h9 => h9) rfl dX11_key_57 ?_
      refine va_get (D := (dC, dI)) (ci := 6) (v := .ref (q ((t2 + 22) + 3))) (C := RX6) (T := TX6) (N := 4) hx hb hts hiX6 hown hK hP (t2 + 22) (wkS ht2.s) rfl 2 (by decide) (hts _ (List.mem_cons_of_mem _ (wk_in_11 _ (List.mem_of_getElem? (i := 7) rfl)))) (fun _ h9 => h9) rfl dX11_key_60 ?_
      refine lv_iload_n hx hb dX11_key_63 rfl (lv_at hl 1 rfl) ?_
      refine x_iald (Wf := WK cB cI cJ cZ cQ q) hx hb hK hP ((t2 + 22) + 3) 1 (wkSz ht2.s) rfl (by omega) (by decide) dX11_key_64 (fun z9 hz9 => ?_)
      have rz9 : (0 : Int) ≤ z9 ∧ z9 ≤ 6 := by rw [hz9]; exact irSz ht2.s hI
      exact RET z9 _ _ _ _ _ ⟨rfl, (rb rz9 (by decide) (by decide))⟩ hP hS dX11_key_65
    · refine tp_i (y := iI 2) (congrArg iI c7) ?_
      refine lv_tableIn (off := 51) (tgt := 66) hx hb dX11_key_15 (by decide +kernel) (by decide +kernel) (by decide +kernel) (by decide) ?_
      refine lv_aload_n hx hb dX11_key_66 rfl (lv_at hl 0 rfl) ?_
      refine va_get (D := (dC, dI)) (ci := 11) (v := .ref (q (51 + 31 * (A 0 9).toNat))) (C := RX11) (T := TX11) (N := 11) hx hb hts hiX11 hown hK hP 0 (wkK) rfl 9 (by decide) (hts _ (List.mem_cons_of_mem _ (wk_in_10 _ (List.mem_of_getElem? (i := 36) rfl)))) (fun _ h9 => h9) rfl dX11_key_67 ?_
      refine tp_v (y := .ref (q t2)) (by rw [et2]) ?_
      refine va_get (D := (dC, dI)) (ci := 9) (v := .ref (q (t2 + 22))) (C := RX9) (T := TX9) (N := 16) hx hb hts hiX9 hown hK hP t2 (wkT ht2) rfl 14 (by decide) (hts _ (List.mem_cons_of_mem _ (wk_in_11 _ (List.mem_of_getElem? (i := 5) rfl)))) (fun _ h9 => h9) rfl dX11_key_70 ?_
      refine lv_iload_n hx hb dX11_key_73 rfl (lv_at hl 1 rfl) ?_
      refine k_calli (As := [.int (iI x1)]) (rest := []) ⟨hx, hb, hml, hown, hts⟩ hE (kc_X6_topOf l dC dI cB cI cJ cZ cQ aL aS q _ (t2 + 22) x1 hI ht2.s hx1) (cwV 1 hts (goodVk (wk_in_11 _ (List.mem_of_getElem? (i := 8) rfl)) (wk_in_9 _ (List.mem_of_getElem? (i := 14) rfl)) (wk_in_9 _ (List.mem_of_getElem? (i := 15) rfl)) (wk_in_0 _ (List.mem_of_getElem? (i := 52) rfl)) (wk_in_8 _ (List.mem_of_getElem? (i := 44) rfl))) rfl rfl rfl (by decide +kernel) ⟨Nat.le_of_ble_eq_true rfl, Nat.le_of_ble_eq_true rfl⟩) hK hDD hA0 hP hS (t2 + 22) 6 (wkS ht2.s) rfl rfl hl.1 (Nat.le_of_ble_eq_true rfl) dX11_key_74 (fun z10 A11 H locs hw12 hP hS => ?_)
      obtain ⟨rfl, hw12⟩ := hw12
      exact RET z10 _ _ _ _ _ ⟨rfl, (by omega)⟩ hP hS dX11_key_77
  · have c6 : z3 = 0 := (i_eq0 (rb rz3 (by decide) (by decide))).mp c6
    clear hw5
    refine lv_iconst (v := iI (-1)) hx hb dX11_key_12 (by decide +kernel) ?_
    exact RET (-1) _ _ _ _ _ ⟨rfl, ⟨by decide, by decide⟩⟩ hP hS dX11_key_13

def ws_kc_X11_in : List Cond := .code yX11_in cX11_in 3 (some .int) :: WY
set_option maxHeartbeats 4000000 in
set_option maxRecDepth 100000 in
theorem kc_X11_in (l : Launch) (dC : Nat → ClassId) (dI : Nat → Nat → Nat) (cB cI cJ cZ cQ : ClassId) (aL aS : Nat) (q : Nat → Nat) (A : St) (x1 x2 : Int) (hI : IK A) (hx1 : (-2147483648 : Int) ≤ x1 ∧ x1 ≤ 2147483647) (hx2 : (-2147483648 : Int) ≤ x2 ∧ x2 ≤ 2147483647) : KMi l yX11_in ws_kc_X11_in ({ frames := 1, cells := 0, slots := 0, locals := 22 } : Room) aL aS (dC, dI) (tyA cB cI cJ cZ cQ) (WK cB cI cJ cZ cQ q) A [.ref (q 0), .int (iI x1), .int (iI x2)] (fun z u => A = u ∧ (-2147483648 ≤ z ∧ z ≤ 2147483647)) := by
  refine k_meti (cc := cX11_in) (maxL := 3) WK_adr (plainFor_of_name (by decide +kernel)) rfl (Nat.le_of_ble_eq_true rfl) (fun p e s m below meth c Q AS ls hx hb hml hown hts hK hDD hA0 hE RET H locs hP hS hl => ?_)
  have hown : s.vm.findClass RX11 = some m.cls := hown
  have hl : lv_has ls 3 [(0, .ref (q 0)), (1, .int (iI x1)), (2, .int (iI x2))] := hl
  have hiX11 : ∀ w ∈ u_ws RX11 TX11 11, w ∈ ws_kc_X11_in := fun w h => List.mem_cons_of_mem _ (wy_layX11 w h)
  have hiX9 : ∀ w ∈ u_ws RX9 TX9 16, w ∈ ws_kc_X11_in := fun w h => List.mem_cons_of_mem _ (wy_layX9 w h)
  refine lv_aload_n hx hb dX11_in_0 rfl (lv_at hl 0 rfl) ?_
  have r1 : (0 : Int) ≤ (A 0 9) ∧ (A 0 9) ≤ 1 := irK_9 hI
  obtain ⟨t2, et2⟩ : ∃ t : Nat, t = 51 + 31 * ((A 0 9)).toNat := ⟨_, rfl⟩
  have ht2 : isT t2 := by rw [et2]; exact isT.b r1
  refine va_get (D := (dC, dI)) (ci := 11) (v := .ref (q (51 + 31 * (A 0 9).toNat))) (C := RX11) (T := TX11) (N := 11) hx hb hts hiX11 hown hK hP 0 (wkK) rfl 9 (by decide) (hts _ (List.mem_cons_of_mem _ (wk_in_10 _ (List.mem_of_getElem? (i := 36) rfl)))) (fun _ h9 => h9) rfl dX11_in_1 ?_
  refine tp_v (y := .ref (q t2)) (by rw [et2]) ?_
  refine lv_iconst (v := iI 2) hx hb dX11_in_4 (by decide +kernel) ?_
  refine lv_iload_n hx hb dX11_in_5 rfl (lv_at hl 1 rfl) ?_
  refine k_calli (As := [.int (iI 2), .int (iI x1)]) (rest := []) ⟨hx, hb, hml, hown, hts⟩ hE (kc_X9_isThere_1_2 l dC dI cB cI cJ cZ cQ aL aS q _ t2 x1 hI ht2 hx1) (cwV 2 hts (goodVk (wk_in_10 _ (List.mem_of_getElem? (i := 54) rfl)) (wk_in_0 _ (List.mem_of_getElem? (i := 22) rfl)) (wk_in_0 _ (List.mem_of_getElem? (i := 23) rfl)) (wk_in_0 _ (List.mem_of_getElem? (i := 6) rfl)) (wk_in_0 _ (List.mem_of_getElem? (i := 24) rfl))) rfl rfl rfl (by decide +kernel) ⟨Nat.le_of_ble_eq_true rfl, Nat.le_of_ble_eq_true rfl⟩) hK hDD hA0 hP hS t2 9 (wkT ht2) rfl rfl hl.1 (Nat.le_of_ble_eq_true rfl) dX11_in_6 (fun z3 A4 H locs hw5 hP hS => ?_)
  obtain ⟨rfl, hw5⟩ := hw5
  have rz3 : 0 ≤ z3 ∧ z3 ≤ 1 := hw5.1
  have hw5 := hw5.2
  refine lv_if_ne (tgt := 14) hx hb dX11_in_9 (by decide) (fun c6 => ?_) (fun c6 => ?_)
  · have c6 : ¬ z3 = 0 := mt (i_eq0 (rb rz3 (by decide) (by decide))).mpr c6
    have hw5b := hw5 (by omega)
    clear hw5
    refine lv_aload_n hx hb dX11_in_14 rfl (lv_at hl 0 rfl) ?_
    refine va_get (D := (dC, dI)) (ci := 11) (v := .ref (q (51 + 31 * (A 0 9).toNat))) (C := RX11) (T := TX11) (N := 11) hx hb hts hiX11 hown hK hP 0 (wkK) rfl 9 (by decide) (hts _ (List.mem_cons_of_mem _ (wk_in_10 _ (List.mem_of_getElem? (i := 36) rfl)))) (fun _ h9 => h9) rfl dX11_in_15 ?_
    refine tp_v (y := .ref (q t2)) (by rw [et2]) ?_
    refine va_get (D := (dC, dI)) (ci := 9) (v := .ref (q (t2 + 22))) (C := RX9) (T := TX9) (N := 16) hx hb hts hiX9 hown hK hP t2 (wkT ht2) rfl 14 (by decide) (hts _ (List.mem_cons_of_mem _ (wk_in_11 _ (List.mem_of_getElem? (i := 5) rfl)))) (fun _ h9 => h9) rfl dX11_in_18 ?_
    refine lv_iload_n hx hb dX11_in_21 rfl (lv_at hl 1 rfl) ?_
    refine lv_iload_n hx hb dX11_in_22 rfl (lv_at hl 2 rfl) ?_
    refine k_calli (As := [.int (iI x1), .int (iI x2)]) (rest := []) ⟨hx, hb, hml, hown, hts⟩ hE (kc_X6_inRow l dC dI cB cI cJ cZ cQ aL aS q _ (t2 + 22) x1 x2 hI ht2.s hx1 hx2) (cwV 2 hts (goodVk (wk_in_11 _ (List.mem_of_getElem? (i := 10) rfl)) (wk_in_0 _ (List.mem_of_getElem? (i := 55) rfl)) (wk_in_0 _ (List.mem_of_getElem? (i := 56) rfl)) (wk_in_0 _ (List.mem_of_getElem? (i := 52) rfl)) (wk_in_0 _ (List.mem_of_getElem? (i := 57) rfl))) rfl rfl rfl (by decide +kernel) ⟨Nat.le_of_ble_eq_true rfl, Nat.le_of_ble_eq_true rfl⟩) hK hDD hA0 hP hS (t2 + 22) 6 (wkS ht2.s) rfl rfl hl.1 (Nat.le_of_ble_eq_true rfl) dX11_in_23 (fun z7 A8 H locs hw9 hP hS => ?_)
    obtain ⟨rfl, hw9⟩ := hw9
    have hw9 := hw9.2
    exact RET z7 _ _ _ _ _ ⟨rfl, (by omega)⟩ hP hS dX11_in_26
  · have c6 : z3 = 0 := (i_eq0 (rb rz3 (by decide) (by decide))).mp c6
    clear hw5
    refine lv_iconst (v := iI (-1)) hx hb dX11_in_12 (by decide +kernel) ?_
    exact RET (-1) _ _ _ _ _ ⟨rfl, ⟨by decide, by decide⟩⟩ hP hS dX11_in_13

def ws_kc_X11_person : List Cond := .code yX11_person cX11_person 3 (some .int) :: WY
set_option maxHeartbeats 4000000 in
set_option maxRecDepth 100000 in
theorem kc_X11_person (l : Launch) (dC : Nat → ClassId) (dI : Nat → Nat → Nat) (cB cI cJ cZ cQ : ClassId) (aL aS : Nat) (q : Nat → Nat) (A : St) (x1 x2 : Int) (hI : IK A) (hx1 : (-2147483648 : Int) ≤ x1 ∧ x1 ≤ 2147483647) (hx2 : (-2147483648 : Int) ≤ x2 ∧ x2 ≤ 2147483647) : KMi l yX11_person ws_kc_X11_person ({ frames := 7, cells := 0, slots := 0, locals := 177 } : Room) aL aS (dC, dI) (tyA cB cI cJ cZ cQ) (WK cB cI cJ cZ cQ q) A [.ref (q 0), .int (iI x1), .int (iI x2)] (fun z u => IK u ∧ fk [7, 9, 10, 11, 12, 13, 14, 15, 16, 17, 18, 19, 72, 103] [(6, 7), (6, 8), (6, 9), (6, 10), (6, 11), (6, 12), (6, 13), (6, 14), (6, 15)] A u ∧ (-2147483648 ≤ z ∧ z ≤ 2147483647)) := by
  refine k_meti (cc := cX11_person) (maxL := 3) WK_adr (plainFor_of_name (by decide +kernel)) rfl (Nat.le_of_ble_eq_true rfl) (fun p e s m below meth c Q AS ls hx hb hml hown hts hK hDD hA0 hE RET H locs hP hS hl => ?_)
  have hown : s.vm.findClass RX11 = some m.cls := hown
  have hl : lv_has ls 3 [(0, .ref (q 0)), (1, .int (iI x1)), (2, .int (iI x2))] := hl
  have hiX11 : ∀ w ∈ u_ws RX11 TX11 11, w ∈ ws_kc_X11_person := fun w h => List.mem_cons_of_mem _ (wy_layX11 w h)
  have hiX9 : ∀ w ∈ u_ws RX9 TX9 16, w ∈ ws_kc_X11_person := fun w h => List.mem_cons_of_mem _ (wy_layX9 w h)
  have hiX6 : ∀ w ∈ u_ws RX6 TX6 4, w ∈ ws_kc_X11_person := fun w h => List.mem_cons_of_mem _ (wy_layX6 w h)
  refine lv_aload_n hx hb dX11_person_0 rfl (lv_at hl 0 rfl) ?_
  have r1 : (0 : Int) ≤ (A 0 9) ∧ (A 0 9) ≤ 1 := irK_9 hI
  obtain ⟨t2, et2⟩ : ∃ t : Nat, t = 51 + 31 * ((A 0 9)).toNat := ⟨_, rfl⟩
  have ht2 : isT t2 := by rw [et2]; exact isT.b r1
  refine va_get (D := (dC, dI)) (ci := 11) (v := .ref (q (51 + 31 * (A 0 9).toNat))) (C := RX11) (T := TX11) (N := 11) hx hb hts hiX11 hown hK hP 0 (wkK) rfl 9 (by decide) (hts _ (List.mem_cons_of_mem _ (wk_in_10 _ (List.mem_of_getElem? (i := 36) rfl)))) (fun _ h9 => h9) rfl dX11_person_1 ?_
  refine tp_v (y := .ref (q t2)) (by rw [et2]) ?_
  refine lv_iconst (v := iI 3) hx hb dX11_person_4 (by decide +kernel) ?_
  refine lv_iload_n hx hb dX11_person_5 rfl (lv_at hl 1 rfl) ?_
  refine k_calli (As := [.int (iI 3), .int (iI x1)]) (rest := []) ⟨hx, hb, hml, hown, hts⟩ hE (kc_X9_isThere_1_3 l dC dI cB cI cJ cZ cQ aL aS q _ t2 x1 hI ht2 hx1) (cwV 2 hts (goodVk (wk_in_10 _ (List.mem_of_getElem? (i := 54) rfl)) (wk_in_0 _ (List.mem_of_getElem? (i := 22) rfl)) (wk_in_0 _ (List.mem_of_getElem? (i := 23) rfl)) (wk_in_0 _ (List.mem_of_getElem? (i := 6) rfl)) (wk_in_0 _ (List.mem_of_getElem? (i := 24) rfl))) rfl rfl rfl (by decide +kernel) ⟨Nat.le_of_ble_eq_true rfl, Nat.le_of_ble_eq_true rfl⟩) hK hDD hA0 hP hS t2 9 (wkT ht2) rfl rfl hl.1 (Nat.le_of_ble_eq_true rfl) dX11_person_6 (fun z3 A4 H locs hw5 hP hS => ?_)
  obtain ⟨rfl, hw5⟩ := hw5
  have rz3 : 0 ≤ z3 ∧ z3 ≤ 1 := hw5.1
  have hw5 := hw5.2
  refine lv_if_ne (tgt := 14) hx hb dX11_person_9 (by decide) (fun c6 => ?_) (fun c6 => ?_)
  · have c6 : ¬ z3 = 0 := mt (i_eq0 (rb rz3 (by decide) (by decide))).mpr c6
    have hw5b := hw5 (by omega)
    clear hw5
    refine lv_iload_n hx hb dX11_person_14 rfl (lv_at hl 2 rfl) ?_
    rcases (show (x2 < 0 ∨ 3 < x2) ∨ x2 = 0 ∨ x2 = 1 ∨ x2 = 2 ∨ x2 = 3 by omega) with c7 | c7 | c7 | c7 | c7
    · refine lv_tableOut (tgt := 95) hx hb dX11_person_15 (by rw [iI_toInt hx2]; exact c7) (by decide) ?_
      refine lv_iconst (v := iI (-1)) hx hb dX11_person_95 (by decide +kernel) ?_
      exact RET (-1) _ _ _ _ _ ⟨hI, fk.rf, ⟨by decide, by decide⟩⟩ hP hS dX11_person_96
    · refine tp_i (y := iI 0) (congrArg iI c7) ?_
      refine lv_tableIn (off := 29) (tgt := 44) hx hb dX11_person_15 (by decide +kernel) (by decide +kernel) (by decide +kernel) (by decide) ?_
      refine lv_aload_n hx hb dX11_person_44 rfl (lv_at hl 0 rfl) ?_
      refine va_get (D := (dC, dI)) (ci := 11) (v := .ref (q (51 + 31 * (A 0 9).toNat))) (C := RX11) (T := TX11) (N := 11) hx hb hts hiX11 hown hK hP 0 (wkK) rfl 9 (by decide) (hts _ (List.mem_cons_of_mem _ (wk_in_10 _ (List.mem_of_getElem? (i := 36) rfl)))) (fun _ h9 => h9) rfl dX11_person_45 ?_
      refine tp_v (y := .ref (q t2)) (by rw [et2]) ?_
      refine va_get (D := (dC, dI)) (ci := 9) (v := .ref (q (t2 + 22))) (C := RX9) (T := TX9) (N := 16) hx hb hts hiX9 hown hK hP t2 (wkT ht2) rfl 14 (by decide) (hts _ (List.mem_cons_of_mem _ (wk_in_11 _ (List.mem_of_getElem? (i := 5) rfl)))) (fun _ h9 => h9) rfl dX11_person_48 ?_
      refine va_get (D := (dC, dI)) (ci := 6) (v := .ref (q ((t2 + 22) + 1))) (C := RX6) (T := TX6) (N := 4) hx hb hts hiX6 hown hK hP (t2 + 22) (wkS ht2.s) rfl 0 (by decide) (hts _ (List.mem_cons_of_mem _ (wk_in_11 _ (List.mem_of_getElem? (i := 12) rfl)))) (fun _ h9 => h9) rfl dX11_person_51 ?_
      refine lv_iload_n hx hb dX11_person_54 rfl (lv_at hl 1 rfl) ?_
      refine x_iald (Wf := WK cB cI cJ cZ cQ q) hx hb hK hP ((t2 + 22) + 1) 1 (wkSs ht2.s) rfl (by omega) (by decide) dX11_person_55 (fun z8 hz8 => ?_)
      have rz8 : (-2147483648 : Int) ≤ z8 ∧ z8 ≤ 2147483647 := by rw [hz8]; exact irSs ht2.s hI
      exact RET z8 _ _ _ _ _ ⟨hI, fk.rf, rz8⟩ hP hS dX11_person_56
    · refine tp_i (y := iI 1) (congrArg iI c7) ?_
      refine lv_tableIn (off := 42) (tgt := 57) hx hb dX11_person_15 (by decide +kernel) (by decide +kernel) (by decide +kernel) (by decide) ?_
      refine lv_aload_n hx hb dX11_person_57 rfl (lv_at hl 0 rfl) ?_
      refine va_get (D := (dC, dI)) (ci := 11) (v := .ref (q (51 + 31 * (A 0 9).toNat))) (C := RX11) (T := TX11) (N := 11) hx hb hts hiX11 hown hK hP 0 (wkK) rfl 9 (by decide) (hts _ (List.mem_cons_of_mem _ (wk_in_10 _ (List.mem_of_getElem? (i := 36) rfl)))) (fun _ h9 => h9) rfl dX11_person_58 ?_
      refine tp_v (y := .ref (q t2)) (by rw [et2]) ?_
      refine lv_iload_n hx hb dX11_person_61 rfl (lv_at hl 1 rfl) ?_
      refine k_calli (As := [.int (iI x1)]) (rest := []) ⟨hx, hb, hml, hown, hts⟩ hE (kc_X9_keysOf l dC dI cB cI cJ cZ cQ aL aS q _ t2 x1 hI ht2 hx1) (cwV 1 hts (goodVk (wk_in_11 _ (List.mem_of_getElem? (i := 14) rfl)) (wk_in_0 _ (List.mem_of_getElem? (i := 4) rfl)) (wk_in_0 _ (List.mem_of_getElem? (i := 5) rfl)) (wk_in_0 _ (List.mem_of_getElem? (i := 6) rfl)) (wk_in_0 _ (List.mem_of_getElem? (i := 7) rfl))) rfl rfl rfl (by decide +kernel) ⟨Nat.le_of_ble_eq_true rfl, Nat.le_of_ble_eq_true rfl⟩) hK hDD hA0 hP hS t2 9 (wkT ht2) rfl rfl hl.1 (Nat.le_of_ble_eq_true rfl) dX11_person_62 (fun z9 A10 H locs hw11 hP hS => ?_)
      obtain ⟨rfl, hw11⟩ := hw11
      exact RET z9 _ _ _ _ _ ⟨hI, fk.rf, hw11⟩ hP hS dX11_person_65
    · refine tp_i (y := iI 2) (congrArg iI c7) ?_
      refine lv_tableIn (off := 51) (tgt := 66) hx hb dX11_person_15 (by decide +kernel) (by decide +kernel) (by decide +kernel) (by decide) ?_
      refine lv_aload_n hx hb dX11_person_66 rfl (lv_at hl 0 rfl) ?_
      refine va_get (D := (dC, dI)) (ci := 11) (v := .ref (q 6)) (C := RX11) (T := TX11) (N := 11) hx hb hts hiX11 hown hK hP 0 (wkK) rfl 2 (by decide) (hts _ (List.mem_cons_of_mem _ (wk_in_11 _ (List.mem_of_getElem? (i := 13) rfl)))) (fun _ h9 => h9) rfl dX11_person_67 ?_
      refine lv_aload_n hx hb dX11_person_70 rfl (lv_at hl 0 rfl) ?_
      refine va_get (D := (dC, dI)) (ci := 11) (v := .ref (q (51 + 31 * (A 0 9).toNat))) (C := RX11) (T := TX11) (N := 11) hx hb hts hiX11 hown hK hP 0 (wkK) rfl 9 (by decide) (hts _ (List.mem_cons_of_mem _ (wk_in_10 _ (List.mem_of_getElem? (i := 36) rfl)))) (fun _ h9 => h9) rfl dX11_person_71 ?_
      refine tp_v (y := .ref (q t2)) (by rw [et2]) ?_
      refine lv_iload_n hx hb dX11_person_74 rfl (lv_at hl 1 rfl) ?_
      refine k_calli (As := [.ref (q t2), .int (iI x1)]) (rest := []) ⟨hx, hb, hml, hown, hts⟩ hE (kc_X0_placesOf l dC dI cB cI cJ cZ cQ aL aS q _ t2 x1 hI ht2 hx1) (cwV 2 hts (goodVk (wk_in_11 _ (List.mem_of_getElem? (i := 15) rfl)) (wk_in_11 _ (List.mem_of_getElem? (i := 16) rfl)) (wk_in_11 _ (List.mem_of_getElem? (i := 17) rfl)) (wk_in_0 _ (List.mem_of_getElem? (i := 14) rfl)) (wk_in_0 _ (List.mem_of_getElem? (i := 0) rfl))) rfl rfl rfl (by decide +kernel) ⟨Nat.le_of_ble_eq_true rfl, Nat.le_of_ble_eq_true rfl⟩) hK hDD hA0 hP hS 6 0 (wkAL) rfl rfl hl.1 (Nat.le_of_ble_eq_true rfl) dX11_person_75 (fun z12 A13 H locs hw14 hP hS => ?_)
      obtain ⟨hI, hf15, hw14⟩ := hw14
      refine k_callSi (As := [.int (iI z12)]) (rest := []) ⟨hx, hb, hml, hown, hts⟩ hE (kc_J6_bitCount_0f7a4 l dC dI cB cI cJ cZ cQ aL aS q _ z12 hI hw14) (va_cwS 1 hts (goodSk (wk_in_10 _ (List.mem_of_getElem? (i := 48) rfl)) (wk_in_1 _ (List.mem_of_getElem? (i := 17) rfl)) (wk_in_1 _ (List.mem_of_getElem? (i := 18) rfl)) (wk_in_1 _ (List.mem_of_getElem? (i := 19) rfl))) rfl rfl rfl (by decide +kernel) ⟨Nat.le_of_ble_eq_true rfl, Nat.le_of_ble_eq_true rfl⟩) hK hDD hA0 hP hS rfl hl.1 (Nat.le_of_ble_eq_true rfl) dX11_person_78 (fun z16 A17 H locs hw18 hP hS => ?_)
      obtain ⟨rfl, hw18⟩ := hw18
      have hw18 := hw18.2
      exact RET z16 _ _ _ _ _ ⟨hI, fk.trans (fk.rf) hf15 rfl rfl, (rb hw18 (by decide) (by decide))⟩ hP hS dX11_person_81
    · refine tp_i (y := iI 3) (congrArg iI c7) ?_
      refine lv_tableIn (off := 67) (tgt := 82) hx hb dX11_person_15 (by decide +kernel) (by decide +kernel) (by decide +kernel) (by decide) ?_
      refine lv_aload_n hx hb dX11_person_82 rfl (lv_at hl 0 rfl) ?_
      refine va_get (D := (dC, dI)) (ci := 11) (v := .ref (q 6)) (C := RX11) (T := TX11) (N := 11) hx hb hts hiX11 hown hK hP 0 (wkK) rfl 2 (by decide) (hts _ (List.mem_cons_of_mem _ (wk_in_11 _ (List.mem_of_getElem? (i := 13) rfl)))) (fun _ h9 => h9) rfl dX11_person_83 ?_
      refine lv_aload_n hx hb dX11_person_86 rfl (lv_at hl 0 rfl) ?_
      refine va_get (D := (dC, dI)) (ci := 11) (v := .ref (q (51 + 31 * (A 0 9).toNat))) (C := RX11) (T := TX11) (N := 11) hx hb hts hiX11 hown hK hP 0 (wkK) rfl 9 (by decide) (hts _ (List.mem_cons_of_mem _ (wk_in_10 _ (List.mem_of_getElem? (i := 36) rfl)))) (fun _ h9 => h9) rfl dX11_person_87 ?_
      refine tp_v (y := .ref (q t2)) (by rw [et2]) ?_
      refine lv_iload_n hx hb dX11_person_90 rfl (lv_at hl 1 rfl) ?_
      refine k_calli (As := [.ref (q t2), .int (iI x1)]) (rest := []) ⟨hx, hb, hml, hown, hts⟩ hE (kc_X0_placesOf l dC dI cB cI cJ cZ cQ aL aS q _ t2 x1 hI ht2 hx1) (cwV 2 hts (goodVk (wk_in_11 _ (List.mem_of_getElem? (i := 15) rfl)) (wk_in_11 _ (List.mem_of_getElem? (i := 16) rfl)) (wk_in_11 _ (List.mem_of_getElem? (i := 17) rfl)) (wk_in_0 _ (List.mem_of_getElem? (i := 14) rfl)) (wk_in_0 _ (List.mem_of_getElem? (i := 0) rfl))) rfl rfl rfl (by decide +kernel) ⟨Nat.le_of_ble_eq_true rfl, Nat.le_of_ble_eq_true rfl⟩) hK hDD hA0 hP hS 6 0 (wkAL) rfl rfl hl.1 (Nat.le_of_ble_eq_true rfl) dX11_person_91 (fun z19 A20 H locs hw21 hP hS => ?_)
      obtain ⟨hI, hf22, hw21⟩ := hw21
      exact RET z19 _ _ _ _ _ ⟨hI, fk.trans (fk.rf) hf22 rfl rfl, hw21⟩ hP hS dX11_person_94
  · have c6 : z3 = 0 := (i_eq0 (rb rz3 (by decide) (by decide))).mp c6
    clear hw5
    refine lv_iconst (v := iI (-1)) hx hb dX11_person_12 (by decide +kernel) ?_
    exact RET (-1) _ _ _ _ _ ⟨hI, fk.rf, ⟨by decide, by decide⟩⟩ hP hS dX11_person_13

def ws_kc_X11_actAnswer : List Cond := .code yX11_actAnswer cX11_actAnswer 2 (some .int) :: WY
set_option maxHeartbeats 4000000 in
set_option maxRecDepth 100000 in
theorem kc_X11_actAnswer (l : Launch) (dC : Nat → ClassId) (dI : Nat → Nat → Nat) (cB cI cJ cZ cQ : ClassId) (aL aS : Nat) (q : Nat → Nat) (A : St) (x1 : Int) (hI : IK A) (hx1 : (-2147483648 : Int) ≤ x1 ∧ x1 ≤ 2147483647) : KMi l yX11_actAnswer ws_kc_X11_actAnswer ({ frames := 1, cells := 0, slots := 0, locals := 21 } : Room) aL aS (dC, dI) (tyA cB cI cJ cZ cQ) (WK cB cI cJ cZ cQ q) A [.ref (q 0), .int (iI x1)] (fun z u => IK u ∧ fk [50] [] A u ∧ (-2147483648 ≤ z ∧ z ≤ 2147483647)) := by
  refine k_meti (cc := cX11_actAnswer) (maxL := 2) WK_adr (plainFor_of_name (by decide +kernel)) rfl (Nat.le_of_ble_eq_true rfl) (fun p e s m below meth c Q AS ls hx hb hml hown hts hK hDD hA0 hE RET H locs hP hS hl => ?_)
  have hown : s.vm.findClass RX11 = some m.cls := hown
  have hl : lv_has ls 2 [(0, .ref (q 0)), (1, .int (iI x1))] := hl
  refine lv_iload_n hx hb dX11_actAnswer_0 rfl (lv_at hl 1 rfl) ?_
  refine lv_iconst (v := iI (-1)) hx hb dX11_actAnswer_1 (by decide +kernel) ?_
  refine lv_icmp_ne (tgt := 13) hx hb dX11_actAnswer_2 (by decide) (fun c1 => ?_) (fun c1 => ?_)
  · have c1 : ¬ x1 = (-1) := mt (i_eq hx1 ⟨by decide, by decide⟩).mpr c1
    refine lv_iload_n hx hb dX11_actAnswer_13 rfl (lv_at hl 1 rfl) ?_
    exact RET x1 _ _ _ _ _ ⟨hI, fk.rf, hx1⟩ hP hS dX11_actAnswer_14
  · have c1 : x1 = (-1) := (i_eq hx1 ⟨by decide, by decide⟩).mp c1
    refine lv_aload_n hx hb dX11_actAnswer_5 rfl (lv_at hl 0 rfl) ?_
    refine lv_iconst (v := iI 2) hx hb dX11_actAnswer_6 (by decide +kernel) ?_
    refine k_calli (As := [.int (iI 2)]) (rest := []) ⟨hx, hb, hml, hown, hts⟩ hE (kc_X11_refused l dC dI cB cI cJ cZ cQ aL aS q _ 2 hI ⟨by decide, by decide⟩) (cwV 1 hts (goodVk (wk_in_10 _ (List.mem_of_getElem? (i := 23) rfl)) (wk_in_10 _ (List.mem_of_getElem? (i := 24) rfl)) (wk_in_10 _ (List.mem_of_getElem? (i := 25) rfl)) (wk_in_10 _ (List.mem_of_getElem? (i := 26) rfl)) (wk_in_10 _ (List.mem_of_getElem? (i := 27) rfl))) rfl rfl rfl (by decide +kernel) ⟨Nat.le_of_ble_eq_true rfl, Nat.le_of_ble_eq_true rfl⟩) hK hDD hA0 hP hS 0 11 (wkK) rfl rfl hl.1 (Nat.le_of_ble_eq_true rfl) dX11_actAnswer_7 (fun z2 A3 H locs hw4 hP hS => ?_)
    obtain ⟨_, hI, hf5, hw4⟩ := hw4
    refine lv_goto (tgt := 14) hx hb dX11_actAnswer_10 (by decide) ?_
    exact RET z2 _ _ _ _ _ ⟨hI, fk.trans (fk.rf) hf5 rfl rfl, (by omega)⟩ hP hS dX11_actAnswer_14

def ws_kc_X11_go : List Cond := .code yX11_go cX11_go 3 (some .int) :: WY
set_option maxHeartbeats 4000000 in
set_option maxRecDepth 100000 in
theorem kc_X11_go (l : Launch) (dC : Nat → ClassId) (dI : Nat → Nat → Nat) (cB cI cJ cZ cQ : ClassId) (aL aS : Nat) (q : Nat → Nat) (A : St) (x1 x2 : Int) (hI : IK A) (hx1 : (-2147483648 : Int) ≤ x1 ∧ x1 ≤ 2147483647) (hx2 : (-2147483648 : Int) ≤ x2 ∧ x2 ≤ 2147483647) : KMi l yX11_go ws_kc_X11_go ({ frames := 5, cells := 0, slots := 0, locals := 123 } : Room) aL aS (dC, dI) (tyA cB cI cJ cZ cQ) (WK cB cI cJ cZ cQ q) A [.ref (q 0), .int (iI x1), .int (iI x2)] (fun z u => IK u ∧ fk [33, 42, 50, 72, 74, 103, 105] [] A u ∧ (-2147483648 ≤ z ∧ z ≤ 2147483647)) := by
  refine k_meti (cc := cX11_go) (maxL := 3) WK_adr (plainFor_of_name (by decide +kernel)) rfl (Nat.le_of_ble_eq_true rfl) (fun p e s m below meth c Q AS ls hx hb hml hown hts hK hDD hA0 hE RET H locs hP hS hl => ?_)
  have hown : s.vm.findClass RX11 = some m.cls := hown
  have hl : lv_has ls 3 [(0, .ref (q 0)), (1, .int (iI x1)), (2, .int (iI x2))] := hl
  have hiX11 : ∀ w ∈ u_ws RX11 TX11 11, w ∈ ws_kc_X11_go := fun w h => List.mem_cons_of_mem _ (wy_layX11 w h)
  refine lv_aload_n hx hb dX11_go_0 rfl (lv_at hl 0 rfl) ?_
  refine lv_aload_n hx hb dX11_go_1 rfl (lv_at hl 0 rfl) ?_
  have r1 : (0 : Int) ≤ (A 0 9) ∧ (A 0 9) ≤ 1 := irK_9 hI
  obtain ⟨t2, et2⟩ : ∃ t : Nat, t = 51 + 31 * ((A 0 9)).toNat := ⟨_, rfl⟩
  have ht2 : isT t2 := by rw [et2]; exact isT.b r1
  refine va_get (D := (dC, dI)) (ci := 11) (v := .ref (q (51 + 31 * (A 0 9).toNat))) (C := RX11) (T := TX11) (N := 11) hx hb hts hiX11 hown hK hP 0 (wkK) rfl 9 (by decide) (hts _ (List.mem_cons_of_mem _ (wk_in_10 _ (List.mem_of_getElem? (i := 36) rfl)))) (fun _ h9 => h9) rfl dX11_go_2 ?_
  refine tp_v (y := .ref (q t2)) (by rw [et2]) ?_
  refine lv_iload_n hx hb dX11_go_5 rfl (lv_at hl 1 rfl) ?_
  refine lv_iload_n hx hb dX11_go_6 rfl (lv_at hl 2 rfl) ?_
  refine k_calli (As := [.int (iI x1), .int (iI x2)]) (rest := [.ref (q 0)]) ⟨hx, hb, hml, hown, hts⟩ hE (kc_X9_goThrough l dC dI cB cI cJ cZ cQ aL aS q _ t2 x1 x2 hI ht2 hx1 hx2) (cwV 2 hts (goodVk (wk_in_11 _ (List.mem_of_getElem? (i := 19) rfl)) (wk_in_9 _ (List.mem_of_getElem? (i := 30) rfl)) (wk_in_9 _ (List.mem_of_getElem? (i := 31) rfl)) (wk_in_0 _ (List.mem_of_getElem? (i := 6) rfl)) (wk_in_9 _ (List.mem_of_getElem? (i := 2) rfl))) rfl rfl rfl (by decide +kernel) ⟨Nat.le_of_ble_eq_true rfl, Nat.le_of_ble_eq_true rfl⟩) hK hDD hA0 hP hS t2 9 (wkT ht2) rfl rfl hl.1 (Nat.le_of_ble_eq_true rfl) dX11_go_7 (fun z3 A4 H locs hw5 hP hS => ?_)
  obtain ⟨hI, hf6, hw5⟩ := hw5
  refine k_calli (As := [.int (iI z3)]) (rest := []) ⟨hx, hb, hml, hown, hts⟩ hE (kc_X11_actAnswer l dC dI cB cI cJ cZ cQ aL aS q _ z3 hI hw5) (cwV 1 hts (goodVk (wk_in_11 _ (List.mem_of_getElem? (i := 20) rfl)) (wk_in_11 _ (List.mem_of_getElem? (i := 21) rfl)) (wk_in_11 _ (List.mem_of_getElem? (i := 22) rfl)) (wk_in_10 _ (List.mem_of_getElem? (i := 26) rfl)) (wk_in_11 _ (List.mem_of_getElem? (i := 23) rfl))) rfl rfl rfl (by decide +kernel) ⟨Nat.le_of_ble_eq_true rfl, Nat.le_of_ble_eq_true rfl⟩) hK hDD hA0 hP hS 0 11 (wkK) rfl rfl hl.1 (Nat.le_of_ble_eq_true rfl) dX11_go_10 (fun z7 A8 H locs hw9 hP hS => ?_)
  obtain ⟨hI, hf10, hw9⟩ := hw9
  exact RET z7 _ _ _ _ _ ⟨hI, fk.trans (fk.trans (fk.rf) hf6 rfl rfl) hf10 rfl rfl, hw9⟩ hP hS dX11_go_13

def ws_kc_X11_open : List Cond := .code yX11_open cX11_open 3 (some .int) :: WY
set_option maxHeartbeats 4000000 in
set_option maxRecDepth 100000 in
theorem kc_X11_open (l : Launch) (dC : Nat → ClassId) (dI : Nat → Nat → Nat) (cB cI cJ cZ cQ : ClassId) (aL aS : Nat) (q : Nat → Nat) (A : St) (x1 x2 : Int) (hI : IK A) (hx1 : (-2147483648 : Int) ≤ x1 ∧ x1 ≤ 2147483647) (hx2 : (-2147483648 : Int) ≤ x2 ∧ x2 ≤ 2147483647) : KMi l yX11_open ws_kc_X11_open ({ frames := 3, cells := 0, slots := 0, locals := 67 } : Room) aL aS (dC, dI) (tyA cB cI cJ cZ cQ) (WK cB cI cJ cZ cQ q) A [.ref (q 0), .int (iI x1), .int (iI x2)] (fun z u => IK u ∧ fk [35, 44, 50, 76, 107] [] A u ∧ (-2147483648 ≤ z ∧ z ≤ 2147483647)) := by
  refine k_meti (cc := cX11_open) (maxL := 3) WK_adr (plainFor_of_name (by decide +kernel)) rfl (Nat.le_of_ble_eq_true rfl) (fun p e s m below meth c Q AS ls hx hb hml hown hts hK hDD hA0 hE RET H locs hP hS hl => ?_)
  have hown : s.vm.findClass RX11 = some m.cls := hown
  have hl : lv_has ls 3 [(0, .ref (q 0)), (1, .int (iI x1)), (2, .int (iI x2))] := hl
  have hiX11 : ∀ w ∈ u_ws RX11 TX11 11, w ∈ ws_kc_X11_open := fun w h => List.mem_cons_of_mem _ (wy_layX11 w h)
  refine lv_aload_n hx hb dX11_open_0 rfl (lv_at hl 0 rfl) ?_
  refine lv_aload_n hx hb dX11_open_1 rfl (lv_at hl 0 rfl) ?_
  have r1 : (0 : Int) ≤ (A 0 9) ∧ (A 0 9) ≤ 1 := irK_9 hI
  obtain ⟨t2, et2⟩ : ∃ t : Nat, t = 51 + 31 * ((A 0 9)).toNat := ⟨_, rfl⟩
  have ht2 : isT t2 := by rw [et2]; exact isT.b r1
  refine va_get (D := (dC, dI)) (ci := 11) (v := .ref (q (51 + 31 * (A 0 9).toNat))) (C := RX11) (T := TX11) (N := 11) hx hb hts hiX11 hown hK hP 0 (wkK) rfl 9 (by decide) (hts _ (List.mem_cons_of_mem _ (wk_in_10 _ (List.mem_of_getElem? (i := 36) rfl)))) (fun _ h9 => h9) rfl dX11_open_2 ?_
  refine tp_v (y := .ref (q t2)) (by rw [et2]) ?_
  refine lv_iload_n hx hb dX11_open_5 rfl (lv_at hl 1 rfl) ?_
  refine lv_iload_n hx hb dX11_open_6 rfl (lv_at hl 2 rfl) ?_
  refine k_calli (As := [.int (iI x1), .int (iI x2)]) (rest := [.ref (q 0)]) ⟨hx, hb, hml, hown, hts⟩ hE (kc_X9_openWith l dC dI cB cI cJ cZ cQ aL aS q _ t2 x1 x2 hI ht2 hx1 hx2) (cwV 2 hts (goodVk (wk_in_11 _ (List.mem_of_getElem? (i := 25) rfl)) (wk_in_9 _ (List.mem_of_getElem? (i := 33) rfl)) (wk_in_9 _ (List.mem_of_getElem? (i := 34) rfl)) (wk_in_0 _ (List.mem_of_getElem? (i := 6) rfl)) (wk_in_9 _ (List.mem_of_getElem? (i := 9) rfl))) rfl rfl rfl (by decide +kernel) ⟨Nat.le_of_ble_eq_true rfl, Nat.le_of_ble_eq_true rfl⟩) hK hDD hA0 hP hS t2 9 (wkT ht2) rfl rfl hl.1 (Nat.le_of_ble_eq_true rfl) dX11_open_7 (fun z3 A4 H locs hw5 hP hS => ?_)
  obtain ⟨hI, hf6, hw5⟩ := hw5
  refine k_calli (As := [.int (iI z3)]) (rest := []) ⟨hx, hb, hml, hown, hts⟩ hE (kc_X11_actAnswer l dC dI cB cI cJ cZ cQ aL aS q _ z3 hI hw5) (cwV 1 hts (goodVk (wk_in_11 _ (List.mem_of_getElem? (i := 20) rfl)) (wk_in_11 _ (List.mem_of_getElem? (i := 21) rfl)) (wk_in_11 _ (List.mem_of_getElem? (i := 22) rfl)) (wk_in_10 _ (List.mem_of_getElem? (i := 26) rfl)) (wk_in_11 _ (List.mem_of_getElem? (i := 23) rfl))) rfl rfl rfl (by decide +kernel) ⟨Nat.le_of_ble_eq_true rfl, Nat.le_of_ble_eq_true rfl⟩) hK hDD hA0 hP hS 0 11 (wkK) rfl rfl hl.1 (Nat.le_of_ble_eq_true rfl) dX11_open_10 (fun z7 A8 H locs hw9 hP hS => ?_)
  obtain ⟨hI, hf10, hw9⟩ := hw9
  exact RET z7 _ _ _ _ _ ⟨hI, fk.trans (fk.trans (fk.rf) hf6 rfl rfl) hf10 rfl rfl, hw9⟩ hP hS dX11_open_13

def ws_kc_X11_shut : List Cond := .code yX11_shut cX11_shut 4 (some .int) :: WY
set_option maxHeartbeats 4000000 in
set_option maxRecDepth 100000 in
theorem kc_X11_shut (l : Launch) (dC : Nat → ClassId) (dI : Nat → Nat → Nat) (cB cI cJ cZ cQ : ClassId) (aL aS : Nat) (q : Nat → Nat) (A : St) (x1 x2 x3 : Int) (hI : IK A) (hx1 : (-2147483648 : Int) ≤ x1 ∧ x1 ≤ 2147483647) (hx2 : (-2147483648 : Int) ≤ x2 ∧ x2 ≤ 2147483647) (hx3 : (-2147483648 : Int) ≤ x3 ∧ x3 ≤ 2147483647) : KMi l yX11_shut ws_kc_X11_shut ({ frames := 4, cells := 0, slots := 0, locals := 91 } : Room) aL aS (dC, dI) (tyA cB cI cJ cZ cQ) (WK cB cI cJ cZ cQ q) A [.ref (q 0), .int (iI x1), .int (iI x2), .int (iI x3)] (fun z u => IK u ∧ fk [35, 37, 38, 39, 40, 44, 46, 47, 48, 49, 50, 76, 78, 79, 80, 81, 107, 109, 110, 111, 112] [] A u ∧ (-2147483648 ≤ z ∧ z ≤ 2147483647)) := by
  refine k_meti (cc := cX11_shut) (maxL := 4) WK_adr (plainFor_of_name (by decide +kernel)) rfl (Nat.le_of_ble_eq_true rfl) (fun p e s m below meth c Q AS ls hx hb hml hown hts hK hDD hA0 hE RET H locs hP hS hl => ?_)
  have hown : s.vm.findClass RX11 = some m.cls := hown
  have hl : lv_has ls 4 [(0, .ref (q 0)), (1, .int (iI x1)), (2, .int (iI x2)), (3, .int (iI x3))] := hl
  have hiX11 : ∀ w ∈ u_ws RX11 TX11 11, w ∈ ws_kc_X11_shut := fun w h => List.mem_cons_of_mem _ (wy_layX11 w h)
  refine lv_aload_n hx hb dX11_shut_0 rfl (lv_at hl 0 rfl) ?_
  refine lv_aload_n hx hb dX11_shut_1 rfl (lv_at hl 0 rfl) ?_
  have r1 : (0 : Int) ≤ (A 0 9) ∧ (A 0 9) ≤ 1 := irK_9 hI
  obtain ⟨t2, et2⟩ : ∃ t : Nat, t = 51 + 31 * ((A 0 9)).toNat := ⟨_, rfl⟩
  have ht2 : isT t2 := by rw [et2]; exact isT.b r1
  refine va_get (D := (dC, dI)) (ci := 11) (v := .ref (q (51 + 31 * (A 0 9).toNat))) (C := RX11) (T := TX11) (N := 11) hx hb hts hiX11 hown hK hP 0 (wkK) rfl 9 (by decide) (hts _ (List.mem_cons_of_mem _ (wk_in_10 _ (List.mem_of_getElem? (i := 36) rfl)))) (fun _ h9 => h9) rfl dX11_shut_2 ?_
  refine tp_v (y := .ref (q t2)) (by rw [et2]) ?_
  refine lv_iload_n hx hb dX11_shut_5 rfl (lv_at hl 1 rfl) ?_
  refine lv_iload_n hx hb dX11_shut_6 rfl (lv_at hl 2 rfl) ?_
  refine lv_iload_n hx hb dX11_shut_7 rfl (lv_at hl 3 rfl) ?_
  refine k_calli (As := [.int (iI x1), .int (iI x2), .int (iI x3)]) (rest := [.ref (q 0)]) ⟨hx, hb, hml, hown, hts⟩ hE (kc_X9_shutWith l dC dI cB cI cJ cZ cQ aL aS q _ t2 x1 x2 x3 hI ht2 hx1 hx2 hx3) (cwV 3 hts (goodVk (wk_in_11 _ (List.mem_of_getElem? (i := 27) rfl)) (wk_in_9 _ (List.mem_of_getElem? (i := 40) rfl)) (wk_in_9 _ (List.mem_of_getElem? (i := 41) rfl)) (wk_in_0 _ (List.mem_of_getElem? (i := 6) rfl)) (wk_in_9 _ (List.mem_of_getElem? (i := 16) rfl))) rfl rfl rfl (by decide +kernel) ⟨Nat.le_of_ble_eq_true rfl, Nat.le_of_ble_eq_true rfl⟩) hK hDD hA0 hP hS t2 9 (wkT ht2) rfl rfl hl.1 (Nat.le_of_ble_eq_true rfl) dX11_shut_8 (fun z3 A4 H locs hw5 hP hS => ?_)
  obtain ⟨hI, hf6, hw5⟩ := hw5
  refine k_calli (As := [.int (iI z3)]) (rest := []) ⟨hx, hb, hml, hown, hts⟩ hE (kc_X11_actAnswer l dC dI cB cI cJ cZ cQ aL aS q _ z3 hI hw5) (cwV 1 hts (goodVk (wk_in_11 _ (List.mem_of_getElem? (i := 20) rfl)) (wk_in_11 _ (List.mem_of_getElem? (i := 21) rfl)) (wk_in_11 _ (List.mem_of_getElem? (i := 22) rfl)) (wk_in_10 _ (List.mem_of_getElem? (i := 26) rfl)) (wk_in_11 _ (List.mem_of_getElem? (i := 23) rfl))) rfl rfl rfl (by decide +kernel) ⟨Nat.le_of_ble_eq_true rfl, Nat.le_of_ble_eq_true rfl⟩) hK hDD hA0 hP hS 0 11 (wkK) rfl rfl hl.1 (Nat.le_of_ble_eq_true rfl) dX11_shut_11 (fun z7 A8 H locs hw9 hP hS => ?_)
  obtain ⟨hI, hf10, hw9⟩ := hw9
  exact RET z7 _ _ _ _ _ ⟨hI, fk.trans (fk.trans (fk.rf) hf6 rfl rfl) hf10 rfl rfl, hw9⟩ hP hS dX11_shut_14

def ws_kc_X11_handingAnswer : List Cond := .code yX11_handingAnswer cX11_handingAnswer 2 (some .boolean) :: WY
set_option maxHeartbeats 4000000 in
set_option maxRecDepth 100000 in
theorem kc_X11_handingAnswer (l : Launch) (dC : Nat → ClassId) (dI : Nat → Nat → Nat) (cB cI cJ cZ cQ : ClassId) (aL aS : Nat) (q : Nat → Nat) (A : St) (x1 : Int) (hI : IK A) (hx1 : (0 : Int) ≤ x1 ∧ x1 ≤ 1) : KMi l yX11_handingAnswer ws_kc_X11_handingAnswer ({ frames := 1, cells := 0, slots := 0, locals := 21 } : Room) aL aS (dC, dI) (tyA cB cI cJ cZ cQ) (WK cB cI cJ cZ cQ q) A [.ref (q 0), .int (iI x1)] (fun z u => IK u ∧ fk [50] [] A u ∧ (0 ≤ z ∧ z ≤ 1)) := by
  refine k_metz (cc := cX11_handingAnswer) (maxL := 2) WK_adr (plainFor_of_name (by decide +kernel)) rfl (Nat.le_of_ble_eq_true rfl) (fun z u h => h.2.2) (fun p e s m below meth c Q AS ls hx hb hml hown hts hK hDD hA0 hE RET H locs hP hS hl => ?_)
  have hown : s.vm.findClass RX11 = some m.cls := hown
  have hl : lv_has ls 2 [(0, .ref (q 0)), (1, .int (iI x1))] := hl
  refine lv_iload_n hx hb dX11_handingAnswer_0 rfl (lv_at hl 1 rfl) ?_
  refine lv_if_ne (tgt := 10) hx hb dX11_handingAnswer_1 (by decide) (fun c1 => ?_) (fun c1 => ?_)
  · have c1 : ¬ x1 = 0 := mt (i_eq0 (rb hx1 (by decide) (by decide))).mpr c1
    refine lv_iload_n hx hb dX11_handingAnswer_10 rfl (lv_at hl 1 rfl) ?_
    exact RET x1 _ _ _ _ _ ⟨hI, fk.rf, hx1⟩ hP hS dX11_handingAnswer_11
  · have c1 : x1 = 0 := (i_eq0 (rb hx1 (by decide) (by decide))).mp c1
    refine lv_aload_n hx hb dX11_handingAnswer_4 rfl (lv_at hl 0 rfl) ?_
    refine lv_iconst (v := iI 3) hx hb dX11_handingAnswer_5 (by decide +kernel) ?_
    refine k_calli (As := [.int (iI 3)]) (rest := []) ⟨hx, hb, hml, hown, hts⟩ hE (kc_X11_refused l dC dI cB cI cJ cZ cQ aL aS q _ 3 hI ⟨by decide, by decide⟩) (cwV 1 hts (goodVk (wk_in_10 _ (List.mem_of_getElem? (i := 23) rfl)) (wk_in_10 _ (List.mem_of_getElem? (i := 24) rfl)) (wk_in_10 _ (List.mem_of_getElem? (i := 25) rfl)) (wk_in_10 _ (List.mem_of_getElem? (i := 26) rfl)) (wk_in_10 _ (List.mem_of_getElem? (i := 27) rfl))) rfl rfl rfl (by decide +kernel) ⟨Nat.le_of_ble_eq_true rfl, Nat.le_of_ble_eq_true rfl⟩) hK hDD hA0 hP hS 0 11 (wkK) rfl rfl hl.1 (Nat.le_of_ble_eq_true rfl) dX11_handingAnswer_6 (fun z2 A3 H locs hw4 hP hS => ?_)
    obtain ⟨_, hI, hf5, hw4⟩ := hw4
    refine lv_pop hx hb dX11_handingAnswer_9 rfl ?_
    refine lv_iload_n hx hb dX11_handingAnswer_10 rfl (lv_at hl 1 rfl) ?_
    exact RET x1 _ _ _ _ _ ⟨hI, fk.trans (fk.rf) hf5 rfl rfl, hx1⟩ hP hS dX11_handingAnswer_11

def ws_kc_X11_lend : List Cond := .code yX11_lend cX11_lend 4 (some .boolean) :: WY
set_option maxHeartbeats 4000000 in
set_option maxRecDepth 100000 in
theorem kc_X11_lend (l : Launch) (dC : Nat → ClassId) (dI : Nat → Nat → Nat) (cB cI cJ cZ cQ : ClassId) (aL aS : Nat) (q : Nat → Nat) (A : St) (x1 x2 x3 : Int) (hI : IK A) (hx1 : (-2147483648 : Int) ≤ x1 ∧ x1 ≤ 2147483647) (hx2 : (-2147483648 : Int) ≤ x2 ∧ x2 ≤ 2147483647) (hx3 : (-2147483648 : Int) ≤ x3 ∧ x3 ≤ 2147483647) : KMi l yX11_lend ws_kc_X11_lend ({ frames := 3, cells := 0, slots := 0, locals := 67 } : Room) aL aS (dC, dI) (tyA cB cI cJ cZ cQ) (WK cB cI cJ cZ cQ q) A [.ref (q 0), .int (iI x1), .int (iI x2), .int (iI x3)] (fun z u => IK u ∧ fk [34, 43, 50, 75, 106] [] A u ∧ (0 ≤ z ∧ z ≤ 1)) := by
  refine k_metz (cc := cX11_lend) (maxL := 4) WK_adr (plainFor_of_name (by decide +kernel)) rfl (Nat.le_of_ble_eq_true rfl) (fun z u h => h.2.2) (fun p e s m below meth c Q AS ls hx hb hml hown hts hK hDD hA0 hE RET H locs hP hS hl => ?_)
  have hown : s.vm.findClass RX11 = some m.cls := hown
  have hl : lv_has ls 4 [(0, .ref (q 0)), (1, .int (iI x1)), (2, .int (iI x2)), (3, .int (iI x3))] := hl
  have hiX11 : ∀ w ∈ u_ws RX11 TX11 11, w ∈ ws_kc_X11_lend := fun w h => List.mem_cons_of_mem _ (wy_layX11 w h)
  refine lv_aload_n hx hb dX11_lend_0 rfl (lv_at hl 0 rfl) ?_
  refine lv_aload_n hx hb dX11_lend_1 rfl (lv_at hl 0 rfl) ?_
  have r1 : (0 : Int) ≤ (A 0 9) ∧ (A 0 9) ≤ 1 := irK_9 hI
  obtain ⟨t2, et2⟩ : ∃ t : Nat, t = 51 + 31 * ((A 0 9)).toNat := ⟨_, rfl⟩
  have ht2 : isT t2 := by rw [et2]; exact isT.b r1
  refine va_get (D := (dC, dI)) (ci := 11) (v := .ref (q (51 + 31 * (A 0 9).toNat))) (C := RX11) (T := TX11) (N := 11) hx hb hts hiX11 hown hK hP 0 (wkK) rfl 9 (by decide) (hts _ (List.mem_cons_of_mem _ (wk_in_10 _ (List.mem_of_getElem? (i := 36) rfl)))) (fun _ h9 => h9) rfl dX11_lend_2 ?_
  refine tp_v (y := .ref (q t2)) (by rw [et2]) ?_
  refine lv_iload_n hx hb dX11_lend_5 rfl (lv_at hl 1 rfl) ?_
  refine lv_iload_n hx hb dX11_lend_6 rfl (lv_at hl 2 rfl) ?_
  refine lv_iload_n hx hb dX11_lend_7 rfl (lv_at hl 3 rfl) ?_
  refine k_calli (As := [.int (iI x1), .int (iI x2), .int (iI x3)]) (rest := [.ref (q 0)]) ⟨hx, hb, hml, hown, hts⟩ hE (kc_X9_lendTo l dC dI cB cI cJ cZ cQ aL aS q _ t2 x1 x2 x3 hI ht2 hx1 hx2 hx3) (cwV 3 hts (goodVk (wk_in_11 _ (List.mem_of_getElem? (i := 29) rfl)) (wk_in_11 _ (List.mem_of_getElem? (i := 30) rfl)) (wk_in_11 _ (List.mem_of_getElem? (i := 31) rfl)) (wk_in_0 _ (List.mem_of_getElem? (i := 6) rfl)) (wk_in_9 _ (List.mem_of_getElem? (i := 18) rfl))) rfl rfl rfl (by decide +kernel) ⟨Nat.le_of_ble_eq_true rfl, Nat.le_of_ble_eq_true rfl⟩) hK hDD hA0 hP hS t2 9 (wkT ht2) rfl rfl hl.1 (Nat.le_of_ble_eq_true rfl) dX11_lend_8 (fun z3 A4 H locs hw5 hP hS => ?_)
  obtain ⟨hI, hf6, hw5⟩ := hw5
  refine k_calli (As := [.int (iI z3)]) (rest := []) ⟨hx, hb, hml, hown, hts⟩ hE (kc_X11_handingAnswer l dC dI cB cI cJ cZ cQ aL aS q _ z3 hI hw5) (cwV 1 hts (goodVk (wk_in_11 _ (List.mem_of_getElem? (i := 32) rfl)) (wk_in_11 _ (List.mem_of_getElem? (i := 33) rfl)) (wk_in_11 _ (List.mem_of_getElem? (i := 34) rfl)) (wk_in_10 _ (List.mem_of_getElem? (i := 26) rfl)) (wk_in_11 _ (List.mem_of_getElem? (i := 35) rfl))) rfl rfl rfl (by decide +kernel) ⟨Nat.le_of_ble_eq_true rfl, Nat.le_of_ble_eq_true rfl⟩) hK hDD hA0 hP hS 0 11 (wkK) rfl rfl hl.1 (Nat.le_of_ble_eq_true rfl) dX11_lend_11 (fun z7 A8 H locs hw9 hP hS => ?_)
  obtain ⟨hI, hf10, hw9⟩ := hw9
  exact RET z7 _ _ _ _ _ ⟨hI, fk.trans (fk.trans (fk.rf) hf6 rfl rfl) hf10 rfl rfl, hw9⟩ hP hS dX11_lend_14

def ws_kc_X11_take : List Cond := .code yX11_take cX11_take 3 (some .boolean) :: WY
set_option maxHeartbeats 4000000 in
set_option maxRecDepth 100000 in
theorem kc_X11_take (l : Launch) (dC : Nat → ClassId) (dI : Nat → Nat → Nat) (cB cI cJ cZ cQ : ClassId) (aL aS : Nat) (q : Nat → Nat) (A : St) (x1 x2 : Int) (hI : IK A) (hx1 : (-2147483648 : Int) ≤ x1 ∧ x1 ≤ 2147483647) (hx2 : (-2147483648 : Int) ≤ x2 ∧ x2 ≤ 2147483647) : KMi l yX11_take ws_kc_X11_take ({ frames := 6, cells := 0, slots := 0, locals := 135 } : Room) aL aS (dC, dI) (tyA cB cI cJ cZ cQ) (WK cB cI cJ cZ cQ q) A [.ref (q 0), .int (iI x1), .int (iI x2)] (fun z u => IK u ∧ fk [34, 43, 50, 75, 106] [] A u ∧ (0 ≤ z ∧ z ≤ 1)) := by
  refine k_metz (cc := cX11_take) (maxL := 3) WK_adr (plainFor_of_name (by decide +kernel)) rfl (Nat.le_of_ble_eq_true rfl) (fun z u h => h.2.2) (fun p e s m below meth c Q AS ls hx hb hml hown hts hK hDD hA0 hE RET H locs hP hS hl => ?_)
  have hown : s.vm.findClass RX11 = some m.cls := hown
  have hl : lv_has ls 3 [(0, .ref (q 0)), (1, .int (iI x1)), (2, .int (iI x2))] := hl
  have hiX11 : ∀ w ∈ u_ws RX11 TX11 11, w ∈ ws_kc_X11_take := fun w h => List.mem_cons_of_mem _ (wy_layX11 w h)
  refine lv_aload_n hx hb dX11_take_0 rfl (lv_at hl 0 rfl) ?_
  refine lv_aload_n hx hb dX11_take_1 rfl (lv_at hl 0 rfl) ?_
  have r1 : (0 : Int) ≤ (A 0 9) ∧ (A 0 9) ≤ 1 := irK_9 hI
  obtain ⟨t2, et2⟩ : ∃ t : Nat, t = 51 + 31 * ((A 0 9)).toNat := ⟨_, rfl⟩
  have ht2 : isT t2 := by rw [et2]; exact isT.b r1
  refine va_get (D := (dC, dI)) (ci := 11) (v := .ref (q (51 + 31 * (A 0 9).toNat))) (C := RX11) (T := TX11) (N := 11) hx hb hts hiX11 hown hK hP 0 (wkK) rfl 9 (by decide) (hts _ (List.mem_cons_of_mem _ (wk_in_10 _ (List.mem_of_getElem? (i := 36) rfl)))) (fun _ h9 => h9) rfl dX11_take_2 ?_
  refine tp_v (y := .ref (q t2)) (by rw [et2]) ?_
  refine lv_iload_n hx hb dX11_take_5 rfl (lv_at hl 1 rfl) ?_
  refine lv_iload_n hx hb dX11_take_6 rfl (lv_at hl 2 rfl) ?_
  refine k_calli (As := [.int (iI x1), .int (iI x2)]) (rest := [.ref (q 0)]) ⟨hx, hb, hml, hown, hts⟩ hE (kc_X9_takeUp l dC dI cB cI cJ cZ cQ aL aS q _ t2 x1 x2 hI ht2 hx1 hx2) (cwV 2 hts (goodVk (wk_in_11 _ (List.mem_of_getElem? (i := 37) rfl)) (wk_in_11 _ (List.mem_of_getElem? (i := 38) rfl)) (wk_in_11 _ (List.mem_of_getElem? (i := 39) rfl)) (wk_in_0 _ (List.mem_of_getElem? (i := 6) rfl)) (wk_in_9 _ (List.mem_of_getElem? (i := 19) rfl))) rfl rfl rfl (by decide +kernel) ⟨Nat.le_of_ble_eq_true rfl, Nat.le_of_ble_eq_true rfl⟩) hK hDD hA0 hP hS t2 9 (wkT ht2) rfl rfl hl.1 (Nat.le_of_ble_eq_true rfl) dX11_take_7 (fun z3 A4 H locs hw5 hP hS => ?_)
  obtain ⟨hI, hf6, hw5⟩ := hw5
  refine k_calli (As := [.int (iI z3)]) (rest := []) ⟨hx, hb, hml, hown, hts⟩ hE (kc_X11_handingAnswer l dC dI cB cI cJ cZ cQ aL aS q _ z3 hI hw5) (cwV 1 hts (goodVk (wk_in_11 _ (List.mem_of_getElem? (i := 32) rfl)) (wk_in_11 _ (List.mem_of_getElem? (i := 33) rfl)) (wk_in_11 _ (List.mem_of_getElem? (i := 34) rfl)) (wk_in_10 _ (List.mem_of_getElem? (i := 26) rfl)) (wk_in_11 _ (List.mem_of_getElem? (i := 35) rfl))) rfl rfl rfl (by decide +kernel) ⟨Nat.le_of_ble_eq_true rfl, Nat.le_of_ble_eq_true rfl⟩) hK hDD hA0 hP hS 0 11 (wkK) rfl rfl hl.1 (Nat.le_of_ble_eq_true rfl) dX11_take_10 (fun z7 A8 H locs hw9 hP hS => ?_)
  obtain ⟨hI, hf10, hw9⟩ := hw9
  exact RET z7 _ _ _ _ _ ⟨hI, fk.trans (fk.trans (fk.rf) hf6 rfl rfl) hf10 rfl rfl, hw9⟩ hP hS dX11_take_13

def ws_kc_X11_lay : List Cond := .code yX11_lay cX11_lay 4 (some .boolean) :: WY
set_option maxHeartbeats 4000000 in
set_option maxRecDepth 100000 in
theorem kc_X11_lay (l : Launch) (dC : Nat → ClassId) (dI : Nat → Nat → Nat) (cB cI cJ cZ cQ : ClassId) (aL aS : Nat) (q : Nat → Nat) (A : St) (x1 x2 x3 : Int) (hI : IK A) (hx1 : (-2147483648 : Int) ≤ x1 ∧ x1 ≤ 2147483647) (hx2 : (-2147483648 : Int) ≤ x2 ∧ x2 ≤ 2147483647) (hx3 : (-2147483648 : Int) ≤ x3 ∧ x3 ≤ 2147483647) : KMi l yX11_lay ws_kc_X11_lay ({ frames := 6, cells := 0, slots := 0, locals := 135 } : Room) aL aS (dC, dI) (tyA cB cI cJ cZ cQ) (WK cB cI cJ cZ cQ q) A [.ref (q 0), .int (iI x1), .int (iI x2), .int (iI x3)] (fun z u => IK u ∧ fk [34, 43, 50, 75, 106] [] A u ∧ (0 ≤ z ∧ z ≤ 1)) := by
  refine k_metz (cc := cX11_lay) (maxL := 4) WK_adr (plainFor_of_name (by decide +kernel)) rfl (Nat.le_of_ble_eq_true rfl) (fun z u h => h.2.2) (fun p e s m below meth c Q AS ls hx hb hml hown hts hK hDD hA0 hE RET H locs hP hS hl => ?_)
  have hown : s.vm.findClass RX11 = some m.cls := hown
  have hl : lv_has ls 4 [(0, .ref (q 0)), (1, .int (iI x1)), (2, .int (iI x2)), (3, .int (iI x3))] := hl
  have hiX11 : ∀ w ∈ u_ws RX11 TX11 11, w ∈ ws_kc_X11_lay := fun w h => List.mem_cons_of_mem _ (wy_layX11 w h)
  refine lv_aload_n hx hb dX11_lay_0 rfl (lv_at hl 0 rfl) ?_
  refine lv_aload_n hx hb dX11_lay_1 rfl (lv_at hl 0 rfl) ?_
  have r1 : (0 : Int) ≤ (A 0 9) ∧ (A 0 9) ≤ 1 := irK_9 hI
  obtain ⟨t2, et2⟩ : ∃ t : Nat, t = 51 + 31 * ((A 0 9)).toNat := ⟨_, rfl⟩
  have ht2 : isT t2 := by rw [et2]; exact isT.b r1
  refine va_get (D := (dC, dI)) (ci := 11) (v := .ref (q (51 + 31 * (A 0 9).toNat))) (C := RX11) (T := TX11) (N := 11) hx hb hts hiX11 hown hK hP 0 (wkK) rfl 9 (by decide) (hts _ (List.mem_cons_of_mem _ (wk_in_10 _ (List.mem_of_getElem? (i := 36) rfl)))) (fun _ h9 => h9) rfl dX11_lay_2 ?_
  refine tp_v (y := .ref (q t2)) (by rw [et2]) ?_
  refine lv_iload_n hx hb dX11_lay_5 rfl (lv_at hl 1 rfl) ?_
  refine lv_iload_n hx hb dX11_lay_6 rfl (lv_at hl 2 rfl) ?_
  refine lv_iload_n hx hb dX11_lay_7 rfl (lv_at hl 3 rfl) ?_
  refine k_calli (As := [.int (iI x1), .int (iI x2), .int (iI x3)]) (rest := [.ref (q 0)]) ⟨hx, hb, hml, hown, hts⟩ hE (kc_X9_layDown l dC dI cB cI cJ cZ cQ aL aS q _ t2 x1 x2 x3 hI ht2 hx1 hx2 hx3) (cwV 3 hts (goodVk (wk_in_11 _ (List.mem_of_getElem? (i := 41) rfl)) (wk_in_11 _ (List.mem_of_getElem? (i := 42) rfl)) (wk_in_11 _ (List.mem_of_getElem? (i := 43) rfl)) (wk_in_0 _ (List.mem_of_getElem? (i := 6) rfl)) (wk_in_9 _ (List.mem_of_getElem? (i := 27) rfl))) rfl rfl rfl (by decide +kernel) ⟨Nat.le_of_ble_eq_true rfl, Nat.le_of_ble_eq_true rfl⟩) hK hDD hA0 hP hS t2 9 (wkT ht2) rfl rfl hl.1 (Nat.le_of_ble_eq_true rfl) dX11_lay_8 (fun z3 A4 H locs hw5 hP hS => ?_)
  obtain ⟨hI, hf6, hw5⟩ := hw5
  refine k_calli (As := [.int (iI z3)]) (rest := []) ⟨hx, hb, hml, hown, hts⟩ hE (kc_X11_handingAnswer l dC dI cB cI cJ cZ cQ aL aS q _ z3 hI hw5) (cwV 1 hts (goodVk (wk_in_11 _ (List.mem_of_getElem? (i := 32) rfl)) (wk_in_11 _ (List.mem_of_getElem? (i := 33) rfl)) (wk_in_11 _ (List.mem_of_getElem? (i := 34) rfl)) (wk_in_10 _ (List.mem_of_getElem? (i := 26) rfl)) (wk_in_11 _ (List.mem_of_getElem? (i := 35) rfl))) rfl rfl rfl (by decide +kernel) ⟨Nat.le_of_ble_eq_true rfl, Nat.le_of_ble_eq_true rfl⟩) hK hDD hA0 hP hS 0 11 (wkK) rfl rfl hl.1 (Nat.le_of_ble_eq_true rfl) dX11_lay_11 (fun z7 A8 H locs hw9 hP hS => ?_)
  obtain ⟨hI, hf10, hw9⟩ := hw9
  exact RET z7 _ _ _ _ _ ⟨hI, fk.trans (fk.trans (fk.rf) hf6 rfl rfl) hf10 rfl rfl, hw9⟩ hP hS dX11_lay_14

def ws_kc_X11_snap : List Cond := .code yX11_snap cX11_snap 2 (some .int) :: WY
set_option maxHeartbeats 4000000 in
set_option maxRecDepth 100000 in
theorem kc_X11_snap (l : Launch) (dC : Nat → ClassId) (dI : Nat → Nat → Nat) (cB cI cJ cZ cQ : ClassId) (aL aS : Nat) (q : Nat → Nat) (A : St) (x1 : Int) (hI : IK A) (hx1 : (-2147483648 : Int) ≤ x1 ∧ x1 ≤ 2147483647) : KMi l yX11_snap ws_kc_X11_snap ({ frames := 1, cells := 0, slots := 0, locals := 22 } : Room) aL aS (dC, dI) (tyA cB cI cJ cZ cQ) (WK cB cI cJ cZ cQ q) A [.ref (q 0), .int (iI x1)] (fun z u => IK u ∧ fk [34, 43, 50, 75, 106] [] A u ∧ (-2147483648 ≤ z ∧ z ≤ 2147483647)) := by
  refine k_meti (cc := cX11_snap) (maxL := 2) WK_adr (plainFor_of_name (by decide +kernel)) rfl (Nat.le_of_ble_eq_true rfl) (fun p e s m below meth c Q AS ls hx hb hml hown hts hK hDD hA0 hE RET H locs hP hS hl => ?_)
  have hown : s.vm.findClass RX11 = some m.cls := hown
  have hl : lv_has ls 2 [(0, .ref (q 0)), (1, .int (iI x1))] := hl
  have hiX11 : ∀ w ∈ u_ws RX11 TX11 11, w ∈ ws_kc_X11_snap := fun w h => List.mem_cons_of_mem _ (wy_layX11 w h)
  have hiX9 : ∀ w ∈ u_ws RX9 TX9 16, w ∈ ws_kc_X11_snap := fun w h => List.mem_cons_of_mem _ (wy_layX9 w h)
  have hiX6 : ∀ w ∈ u_ws RX6 TX6 4, w ∈ ws_kc_X11_snap := fun w h => List.mem_cons_of_mem _ (wy_layX6 w h)
  refine lv_aload_n hx hb dX11_snap_0 rfl (lv_at hl 0 rfl) ?_
  have r1 : (0 : Int) ≤ (A 0 9) ∧ (A 0 9) ≤ 1 := irK_9 hI
  obtain ⟨t2, et2⟩ : ∃ t : Nat, t = 51 + 31 * ((A 0 9)).toNat := ⟨_, rfl⟩
  have ht2 : isT t2 := by rw [et2]; exact isT.b r1
  refine va_get (D := (dC, dI)) (ci := 11) (v := .ref (q (51 + 31 * (A 0 9).toNat))) (C := RX11) (T := TX11) (N := 11) hx hb hts hiX11 hown hK hP 0 (wkK) rfl 9 (by decide) (hts _ (List.mem_cons_of_mem _ (wk_in_10 _ (List.mem_of_getElem? (i := 36) rfl)))) (fun _ h9 => h9) rfl dX11_snap_1 ?_
  refine tp_v (y := .ref (q t2)) (by rw [et2]) ?_
  refine lv_iconst (v := iI 2) hx hb dX11_snap_4 (by decide +kernel) ?_
  refine lv_iload_n hx hb dX11_snap_5 rfl (lv_at hl 1 rfl) ?_
  refine k_calli (As := [.int (iI 2), .int (iI x1)]) (rest := []) ⟨hx, hb, hml, hown, hts⟩ hE (kc_X9_isThere_1_2 l dC dI cB cI cJ cZ cQ aL aS q _ t2 x1 hI ht2 hx1) (cwV 2 hts (goodVk (wk_in_10 _ (List.mem_of_getElem? (i := 54) rfl)) (wk_in_0 _ (List.mem_of_getElem? (i := 22) rfl)) (wk_in_0 _ (List.mem_of_getElem? (i := 23) rfl)) (wk_in_0 _ (List.mem_of_getElem? (i := 6) rfl)) (wk_in_0 _ (List.mem_of_getElem? (i := 24) rfl))) rfl rfl rfl (by decide +kernel) ⟨Nat.le_of_ble_eq_true rfl, Nat.le_of_ble_eq_true rfl⟩) hK hDD hA0 hP hS t2 9 (wkT ht2) rfl rfl hl.1 (Nat.le_of_ble_eq_true rfl) dX11_snap_6 (fun z3 A4 H locs hw5 hP hS => ?_)
  obtain ⟨rfl, hw5⟩ := hw5
  have rz3 : 0 ≤ z3 ∧ z3 ≤ 1 := hw5.1
  have hw5 := hw5.2
  refine lv_if_eq (tgt := 29) hx hb dX11_snap_9 (by decide) (fun c6 => ?_) (fun c6 => ?_)
  · have c6 : z3 = 0 := (i_eq0 (rb rz3 (by decide) (by decide))).mp c6
    clear hw5
    refine lv_aload_n hx hb dX11_snap_29 rfl (lv_at hl 0 rfl) ?_
    refine lv_iconst (v := iI 3) hx hb dX11_snap_30 (by decide +kernel) ?_
    refine k_calli (As := [.int (iI 3)]) (rest := []) ⟨hx, hb, hml, hown, hts⟩ hE (kc_X11_refused l dC dI cB cI cJ cZ cQ aL aS q _ 3 hI ⟨by decide, by decide⟩) (cwV 1 hts (goodVk (wk_in_10 _ (List.mem_of_getElem? (i := 23) rfl)) (wk_in_10 _ (List.mem_of_getElem? (i := 24) rfl)) (wk_in_10 _ (List.mem_of_getElem? (i := 25) rfl)) (wk_in_10 _ (List.mem_of_getElem? (i := 26) rfl)) (wk_in_10 _ (List.mem_of_getElem? (i := 27) rfl))) rfl rfl rfl (by decide +kernel) ⟨Nat.le_of_ble_eq_true rfl, Nat.le_of_ble_eq_true rfl⟩) hK hDD hA0 hP hS 0 11 (wkK) rfl rfl hl.1 (Nat.le_of_ble_eq_true rfl) dX11_snap_31 (fun z7 A8 H locs hw9 hP hS => ?_)
    obtain ⟨_, hI, hf10, hw9⟩ := hw9
    exact RET z7 _ _ _ _ _ ⟨hI, fk.trans (fk.rf) hf10 rfl rfl, (by omega)⟩ hP hS dX11_snap_34
  · have c6 : ¬ z3 = 0 := mt (i_eq0 (rb rz3 (by decide) (by decide))).mpr c6
    have hw5b := hw5 (by omega)
    clear hw5
    refine lv_aload_n hx hb dX11_snap_12 rfl (lv_at hl 0 rfl) ?_
    refine va_get (D := (dC, dI)) (ci := 11) (v := .ref (q (51 + 31 * (A 0 9).toNat))) (C := RX11) (T := TX11) (N := 11) hx hb hts hiX11 hown hK hP 0 (wkK) rfl 9 (by decide) (hts _ (List.mem_cons_of_mem _ (wk_in_10 _ (List.mem_of_getElem? (i := 36) rfl)))) (fun _ h9 => h9) rfl dX11_snap_13 ?_
    refine tp_v (y := .ref (q t2)) (by rw [et2]) ?_
    refine va_get (D := (dC, dI)) (ci := 9) (v := .ref (q (t2 + 22))) (C := RX9) (T := TX9) (N := 16) hx hb hts hiX9 hown hK hP t2 (wkT ht2) rfl 14 (by decide) (hts _ (List.mem_cons_of_mem _ (wk_in_11 _ (List.mem_of_getElem? (i := 5) rfl)))) (fun _ h9 => h9) rfl dX11_snap_16 ?_
    refine va_get (D := (dC, dI)) (ci := 6) (v := .ref (q ((t2 + 22) + 2))) (C := RX6) (T := TX6) (N := 4) hx hb hts hiX6 hown hK hP (t2 + 22) (wkS ht2.s) rfl 1 (by decide) (hts _ (List.mem_cons_of_mem _ (wk_in_11 _ (List.mem_of_getElem? (i := 6) rfl)))) (fun _ h9 => h9) rfl dX11_snap_19 ?_
    refine lv_iload_n hx hb dX11_snap_22 rfl (lv_at hl 1 rfl) ?_
    refine x_iald (Wf := WK cB cI cJ cZ cQ q) hx hb hK hP ((t2 + 22) + 2) 1 (wkSw ht2.s) rfl (by omega) (by decide) dX11_snap_23 (fun z11 hz11 => ?_)
    have rz11 : (-2147483648 : Int) ≤ z11 ∧ z11 ≤ 2147483647 := by rw [hz11]; exact irSw ht2.s hI
    refine lv_bipush (v := iI 40) hx hb dX11_snap_24 (by decide +kernel) ?_
    refine lv_icmp_ne (tgt := 35) hx hb dX11_snap_26 (by decide) (fun c12 => ?_) (fun c12 => ?_)
    · have c12 : ¬ z11 = 40 := mt (i_eq rz11 ⟨by decide, by decide⟩).mpr c12
      refine lv_aload_n hx hb dX11_snap_35 rfl (lv_at hl 0 rfl) ?_
      refine va_get (D := (dC, dI)) (ci := 11) (v := .ref (q (51 + 31 * (A 0 9).toNat))) (C := RX11) (T := TX11) (N := 11) hx hb hts hiX11 hown hK hP 0 (wkK) rfl 9 (by decide) (hts _ (List.mem_cons_of_mem _ (wk_in_10 _ (List.mem_of_getElem? (i := 36) rfl)))) (fun _ h9 => h9) rfl dX11_snap_36 ?_
      refine tp_v (y := .ref (q t2)) (by rw [et2]) ?_
      refine va_get (D := (dC, dI)) (ci := 9) (v := .ref (q (t2 + 22))) (C := RX9) (T := TX9) (N := 16) hx hb hts hiX9 hown hK hP t2 (wkT ht2) rfl 14 (by decide) (hts _ (List.mem_cons_of_mem _ (wk_in_11 _ (List.mem_of_getElem? (i := 5) rfl)))) (fun _ h9 => h9) rfl dX11_snap_39 ?_
      refine va_get (D := (dC, dI)) (ci := 6) (v := .ref (q ((t2 + 22) + 2))) (C := RX6) (T := TX6) (N := 4) hx hb hts hiX6 hown hK hP (t2 + 22) (wkS ht2.s) rfl 1 (by decide) (hts _ (List.mem_cons_of_mem _ (wk_in_11 _ (List.mem_of_getElem? (i := 6) rfl)))) (fun _ h9 => h9) rfl dX11_snap_42 ?_
      refine lv_iload_n hx hb dX11_snap_45 rfl (lv_at hl 1 rfl) ?_
      refine lv_bipush (v := iI 40) hx hb dX11_snap_46 (by decide +kernel) ?_
      refine k_iast (Wf := WK cB cI cJ cZ cQ q) hx hb hK hP hDD hS ((t2 + 22) + 2) 1 (wkSw ht2.s) rfl (by omega) (by decide) dX11_snap_48 (wsSw ht2.s) (fun H locs A13 hA13 hP hS => ?_)
      have hI := isSw ht2.s hA13 hI (show (-2147483648 : Int) ≤ 40 ∧ 40 ≤ 2147483647 from ⟨by decide, by decide⟩)
      refine lv_aload_n hx hb dX11_snap_49 rfl (lv_at hl 0 rfl) ?_
      have e14 : A13 0 9 = (A 0 9) := (rd_ne hA13 (by rcases ht2.s with h | h | h | h <;> omega) 9)
      refine va_get (D := (dC, dI)) (ci := 11) (v := .ref (q (51 + 31 * (A13 0 9).toNat))) (C := RX11) (T := TX11) (N := 11) hx hb hts hiX11 hown hK hP 0 (wkK) rfl 9 (by decide) (hts _ (List.mem_cons_of_mem _ (wk_in_10 _ (List.mem_of_getElem? (i := 36) rfl)))) (fun _ h9 => h9) rfl dX11_snap_50 ?_
      refine tp_v (y := .ref (q t2)) (by rw [et2, e14]) ?_
      refine va_get (D := (dC, dI)) (ci := 9) (v := .ref (q (t2 + 22))) (C := RX9) (T := TX9) (N := 16) hx hb hts hiX9 hown hK hP t2 (wkT ht2) rfl 14 (by decide) (hts _ (List.mem_cons_of_mem _ (wk_in_11 _ (List.mem_of_getElem? (i := 5) rfl)))) (fun _ h9 => h9) rfl dX11_snap_53 ?_
      refine va_get (D := (dC, dI)) (ci := 6) (v := .ref (q ((t2 + 22) + 3))) (C := RX6) (T := TX6) (N := 4) hx hb hts hiX6 hown hK hP (t2 + 22) (wkS ht2.s) rfl 2 (by decide) (hts _ (List.mem_cons_of_mem _ (wk_in_11 _ (List.mem_of_getElem? (i := 7) rfl)))) (fun _ h9 => h9) rfl dX11_snap_56 ?_
      refine lv_iload_n hx hb dX11_snap_59 rfl (lv_at hl 1 rfl) ?_
      have a15 : ∀ k, A13 ((t2 + 22) + 3) k = A ((t2 + 22) + 3) k := fun k => rd_ne hA13 (by omega) k
      refine x_iald (Wf := WK cB cI cJ cZ cQ q) hx hb hK hP ((t2 + 22) + 3) 1 (wkSz ht2.s) rfl (by omega) (by decide) dX11_snap_60 (fun z16 hz16 => ?_)
      have rz16 : (0 : Int) ≤ z16 ∧ z16 ≤ 6 := by rw [hz16]; exact irSz ht2.s hI
      have hz16 : z16 = A ((t2 + 22) + 3) (x1).toNat := hz16.trans (a15 _)
      exact RET z16 _ _ _ _ _ ⟨hI, fk.da (fk.rf) hA13 (isS.b2 (o := fun b => List.contains [34, 43, 50, 75, 106] (b + 2)) ht2.s rfl rfl rfl rfl), (rb rz16 (by decide) (by decide))⟩ hP hS dX11_snap_61
    · have c12 : z11 = 40 := (i_eq rz11 ⟨by decide, by decide⟩).mp c12
      refine lv_aload_n hx hb dX11_snap_29 rfl (lv_at hl 0 rfl) ?_
      refine lv_iconst (v := iI 3) hx hb dX11_snap_30 (by decide +kernel) ?_
      refine k_calli (As := [.int (iI 3)]) (rest := []) ⟨hx, hb, hml, hown, hts⟩ hE (kc_X11_refused l dC dI cB cI cJ cZ cQ aL aS q _ 3 hI ⟨by decide, by decide⟩) (cwV 1 hts (goodVk (wk_in_10 _ (List.mem_of_getElem? (i := 23) rfl)) (wk_in_10 _ (List.mem_of_getElem? (i := 24) rfl)) (wk_in_10 _ (List.mem_of_getElem? (i := 25) rfl)) (wk_in_10 _ (List.mem_of_getElem? (i := 26) rfl)) (wk_in_10 _ (List.mem_of_getElem? (i := 27) rfl))) rfl rfl rfl (by decide +kernel) ⟨Nat.le_of_ble_eq_true rfl, Nat.le_of_ble_eq_true rfl⟩) hK hDD hA0 hP hS 0 11 (wkK) rfl rfl hl.1 (Nat.le_of_ble_eq_true rfl) dX11_snap_31 (fun z17 A18 H locs hw19 hP hS => ?_)
      obtain ⟨_, hI, hf20, hw19⟩ := hw19
      exact RET z17 _ _ _ _ _ ⟨hI, fk.trans (fk.rf) hf20 rfl rfl, (by omega)⟩ hP hS dX11_snap_34

def ws_kc_X11_firstImpossible : List Cond := .code yX11_firstImpossible cX11_firstImpossible 3 (some .int) :: WY
set_option maxHeartbeats 4000000 in
set_option maxRecDepth 100000 in
theorem kc_X11_firstImpossible (l : Launch) (dC : Nat → ClassId) (dI : Nat → Nat → Nat) (cB cI cJ cZ cQ : ClassId) (aL aS : Nat) (q : Nat → Nat) (A : St) (hI : IK A) : KMi l yX11_firstImpossible ws_kc_X11_firstImpossible ({ frames := 6, cells := 0, slots := 0, locals := 146 } : Room) aL aS (dC, dI) (tyA cB cI cJ cZ cQ) (WK cB cI cJ cZ cQ q) A [.ref (q 0)] (fun z u => IK u ∧ fk [33, 35, 37, 38, 39, 40, 42, 44, 46, 47, 48, 49, 72, 74, 76, 78, 79, 80, 81, 103, 105, 107, 109, 110, 111, 112] [] A u ∧ (-2147483648 ≤ z ∧ z ≤ 2147483647)) := by
  refine k_meti (cc := cX11_firstImpossible) (maxL := 3) WK_adr (plainFor_of_name (by decide +kernel)) rfl (Nat.le_of_ble_eq_true rfl) (fun p e s m below meth c Q AS ls hx hb hml hown hts hK hDD hA0 hE RET H locs hP hS hl => ?_)
  have hown : s.vm.findClass RX11 = some m.cls := hown
  have hl : lv_has ls 3 [(0, .ref (q 0))] := hl
  have hiX11 : ∀ w ∈ u_ws RX11 TX11 11, w ∈ ws_kc_X11_firstImpossible := fun w h => List.mem_cons_of_mem _ (wy_layX11 w h)
  have hiX7 : ∀ w ∈ u_ws RX7 TX7 2, w ∈ ws_kc_X11_firstImpossible := fun w h => List.mem_cons_of_mem _ (wy_layX7 w h)
  refine lv_iconst (v := iI 0) hx hb dX11_firstImpossible_0 (by decide +kernel) ?_
  refine lv_istore_n (lv' := [(1, .int (iI 0)), (0, .ref (q 0))]) hx hb dX11_firstImpossible_1 rfl hl (by decide) rfl (fun ls hl => ?_)
  refine lv_iconst (v := iI 0) hx hb dX11_firstImpossible_2 (by decide +kernel) ?_
  refine lv_istore_n (lv' := [(2, .int (iI 0)), (1, .int (iI 0)), (0, .ref (q 0))]) hx hb dX11_firstImpossible_3 rfl hl (by decide) rfl (fun ls hl => ?_)
  have L4_5 : ∀ (n11 : Nat) (z1 z2 : Int) (A4 : St) (H : Heap) (locs : List Loc) (ls : Array Slot), (0 ≤ z1 ∧ z1 ≤ 2147483647) → (-2147483648 ≤ z2 ∧ z2 ≤ 2147483647) → ((1601 - z1).toNat = n11) → IK A4 → fk [33, 35, 37, 38, 39, 40, 42, 44, 46, 47, 48, 49, 72, 74, 76, 78, 79, 80, 81, 103, 105, 107, 109, 110, 111, 112] [] A A4 → va_P (dC, dI) vwCl (WK cB cI cJ cZ cQ q A4) H → va_S AS s.heap H locs → lv_has ls 3 [(2, .int (iI z1)), (1, .int (iI z2)), (0, .ref (q 0))] → W p l e (headSpec ws_kc_X11_firstImpossible ({ frames := 6, cells := 0, slots := 0, locals := 146 } : Room)).room s m [.ref (q 0)].toArray below meth c H locs 0 0 Q (F0 m 4 ls []) := by
    intro n11
    induction n11 using Nat.strongRecOn with
    | ind n11 ih6 =>
      intro z1 z2 A4 H locs ls f7 f8 hn11 hI hj3 hP hS hl
      refine lv_iload_n hx hb dX11_firstImpossible_4 rfl (lv_at hl 0 rfl) ?_
      refine lv_aload_n hx hb dX11_firstImpossible_5 rfl (lv_at hl 2 rfl) ?_
      refine va_get (D := (dC, dI)) (ci := 11) (v := .ref (q 1)) (C := RX11) (T := TX11) (N := 11) hx hb hts hiX11 hown hK hP 0 (wkK) rfl 0 (by decide) (hts _ (List.mem_cons_of_mem _ (wk_in_10 _ (List.mem_of_getElem? (i := 18) rfl)))) (fun _ h9 => h9) rfl dX11_firstImpossible_6 ?_
      have e12 : A4 1 1 = (A 1 1) := (hj3 1 1 rfl rfl)
      have r13 : (0 : Int) ≤ (A 1 1) ∧ (A 1 1) ≤ 1600 := by rw [← e12]; exact irTP_1 hI
      refine va_get (D := (dC, dI)) (ci := 7) (v := .int (iI (A4 1 1))) (C := RX7) (T := TX7) (N := 2) hx hb hts hiX7 hown hK hP 1 (wkTP) rfl 1 (by decide) (hts _ (List.mem_cons_of_mem _ (wk_in_10 _ (List.mem_of_getElem? (i := 19) rfl)))) (fun _ h9 => h9) rfl dX11_firstImpossible_9 ?_
      refine tp_i (y := iI (A 1 1)) (congrArg iI e12) ?_
      refine lv_icmp_ge (tgt := 80) hx hb dX11_firstImpossible_12 (by decide) (fun c14 => ?_) (fun c14 => ?_)
      · have c14 : (A 1 1) ≤ z1 := (i_le (rb r13 (by decide) (by decide)) (rb f7 (by decide) (by decide))).mp c14
        refine lv_iconst (v := iI (-1)) hx hb dX11_firstImpossible_80 (by decide +kernel) ?_
        exact RET (-1) _ _ _ _ _ ⟨hI, fk.trans (fk.rf) hj3 rfl rfl, ⟨by decide, by decide⟩⟩ hP hS dX11_firstImpossible_81
      · have c14 : ¬ (A 1 1) ≤ z1 := mt (i_le (rb r13 (by decide) (by decide)) (rb f7 (by decide) (by decide))).mpr c14
        refine lv_iload_n hx hb dX11_firstImpossible_15 rfl (lv_at hl 0 rfl) ?_
        refine lv_iconst (v := iI 3) hx hb dX11_firstImpossible_16 (by decide +kernel) ?_
        refine x_addv (v := z1 + 3) hx hb dX11_firstImpossible_17 (by omega) ?_
        refine lv_aload_n hx hb dX11_firstImpossible_18 rfl (lv_at hl 2 rfl) ?_
        refine va_get (D := (dC, dI)) (ci := 11) (v := .ref (q 1)) (C := RX11) (T := TX11) (N := 11) hx hb hts hiX11 hown hK hP 0 (wkK) rfl 0 (by decide) (hts _ (List.mem_cons_of_mem _ (wk_in_10 _ (List.mem_of_getElem? (i := 18) rfl)))) (fun _ h9 => h9) rfl dX11_firstImpossible_19 ?_
        refine va_get (D := (dC, dI)) (ci := 7) (v := .int (iI (A4 1 1))) (C := RX7) (T := TX7) (N := 2) hx hb hts hiX7 hown hK hP 1 (wkTP) rfl 1 (by decide) (hts _ (List.mem_cons_of_mem _ (wk_in_10 _ (List.mem_of_getElem? (i := 19) rfl)))) (fun _ h9 => h9) rfl dX11_firstImpossible_22 ?_
        refine tp_i (y := iI (A 1 1)) (congrArg iI e12) ?_
        refine lv_icmp_le (tgt := 30) hx hb dX11_firstImpossible_25 (by decide) (fun c15 => ?_) (fun c15 => ?_)
        · have c15 : z1 + 3 ≤ (A 1 1) := (i_le (by omega) (rb r13 (by decide) (by decide))).mp c15
          refine lv_aload_n hx hb dX11_firstImpossible_30 rfl (lv_at hl 2 rfl) ?_
          have e16 : A4 0 9 = (A 0 9) := (hj3 0 9 rfl rfl)
          have r17 : (0 : Int) ≤ (A 0 9) ∧ (A 0 9) ≤ 1 := by rw [← e16]; exact irK_9 hI
          obtain ⟨t18, et18⟩ : ∃ t : Nat, t = 51 + 31 * ((A 0 9)).toNat := ⟨_, rfl⟩
          have ht18 : isT t18 := by rw [et18]; exact isT.b r17
          refine va_get (D := (dC, dI)) (ci := 11) (v := .ref (q (51 + 31 * (A4 0 9).toNat))) (C := RX11) (T := TX11) (N := 11) hx hb hts hiX11 hown hK hP 0 (wkK) rfl 9 (by decide) (hts _ (List.mem_cons_of_mem _ (wk_in_10 _ (List.mem_of_getElem? (i := 36) rfl)))) (fun _ h9 => h9) rfl dX11_firstImpossible_31 ?_
          refine tp_v (y := .ref (q t18)) (by rw [et18, e16]) ?_
          refine lv_aload_n hx hb dX11_firstImpossible_34 rfl (lv_at hl 2 rfl) ?_
          refine va_get (D := (dC, dI)) (ci := 11) (v := .ref (q 1)) (C := RX11) (T := TX11) (N := 11) hx hb hts hiX11 hown hK hP 0 (wkK) rfl 0 (by decide) (hts _ (List.mem_cons_of_mem _ (wk_in_10 _ (List.mem_of_getElem? (i := 18) rfl)))) (fun _ h9 => h9) rfl dX11_firstImpossible_35 ?_
          refine lv_iload_n hx hb dX11_firstImpossible_38 rfl (lv_at hl 0 rfl) ?_
          refine k_calli (As := [.int (iI z1)]) (rest := [.ref (q t18)]) ⟨hx, hb, hml, hown, hts⟩ hE (kc_X7_at l dC dI cB cI cJ cZ cQ aL aS q _ z1 hI (rb f7 (by decide) (by decide))) (cwV 1 hts (goodVk (wk_in_11 _ (List.mem_of_getElem? (i := 52) rfl)) (wk_in_4 _ (List.mem_of_getElem? (i := 39) rfl)) (wk_in_4 _ (List.mem_of_getElem? (i := 40) rfl)) (wk_in_4 _ (List.mem_of_getElem? (i := 41) rfl)) (wk_in_4 _ (List.mem_of_getElem? (i := 42) rfl))) rfl rfl rfl (by decide +kernel) ⟨Nat.le_of_ble_eq_true rfl, Nat.le_of_ble_eq_true rfl⟩) hK hDD hA0 hP hS 1 7 (wkTP) rfl rfl hl.1 (Nat.le_of_ble_eq_true rfl) dX11_firstImpossible_39 (fun z19 A20 H locs hw21 hP hS => ?_)
          obtain ⟨rfl, hw21⟩ := hw21
          refine lv_aload_n hx hb dX11_firstImpossible_42 rfl (lv_at hl 2 rfl) ?_
          refine va_get (D := (dC, dI)) (ci := 11) (v := .ref (q 1)) (C := RX11) (T := TX11) (N := 11) hx hb hts hiX11 hown hK hP 0 (wkK) rfl 0 (by decide) (hts _ (List.mem_cons_of_mem _ (wk_in_10 _ (List.mem_of_getElem? (i := 18) rfl)))) (fun _ h9 => h9) rfl dX11_firstImpossible_43 ?_
          refine lv_iload_n hx hb dX11_firstImpossible_46 rfl (lv_at hl 0 rfl) ?_
          refine lv_iconst (v := iI 1) hx hb dX11_firstImpossible_47 (by decide +kernel) ?_
          refine x_addv (v := z1 + 1) hx hb dX11_firstImpossible_48 (by omega) ?_
          refine k_calli (As := [.int (iI (z1 + 1))]) (rest := [.int (iI z19), .ref (q t18)]) ⟨hx, hb, hml, hown, hts⟩ hE (kc_X7_at l dC dI cB cI cJ cZ cQ aL aS q _ (z1 + 1) hI (by omega)) (cwV 1 hts (goodVk (wk_in_11 _ (List.mem_of_getElem? (i := 52) rfl)) (wk_in_4 _ (List.mem_of_getElem? (i := 39) rfl)) (wk_in_4 _ (List.mem_of_getElem? (i := 40) rfl)) (wk_in_4 _ (List.mem_of_getElem? (i := 41) rfl)) (wk_in_4 _ (List.mem_of_getElem? (i := 42) rfl))) rfl rfl rfl (by decide +kernel) ⟨Nat.le_of_ble_eq_true rfl, Nat.le_of_ble_eq_true rfl⟩) hK hDD hA0 hP hS 1 7 (wkTP) rfl rfl hl.1 (Nat.le_of_ble_eq_true rfl) dX11_firstImpossible_49 (fun z22 A23 H locs hw24 hP hS => ?_)
          obtain ⟨rfl, hw24⟩ := hw24
          refine lv_aload_n hx hb dX11_firstImpossible_52 rfl (lv_at hl 2 rfl) ?_
          refine va_get (D := (dC, dI)) (ci := 11) (v := .ref (q 1)) (C := RX11) (T := TX11) (N := 11) hx hb hts hiX11 hown hK hP 0 (wkK) rfl 0 (by decide) (hts _ (List.mem_cons_of_mem _ (wk_in_10 _ (List.mem_of_getElem? (i := 18) rfl)))) (fun _ h9 => h9) rfl dX11_firstImpossible_53 ?_
          refine lv_iload_n hx hb dX11_firstImpossible_56 rfl (lv_at hl 0 rfl) ?_
          refine lv_iconst (v := iI 2) hx hb dX11_firstImpossible_57 (by decide +kernel) ?_
          refine x_addv (v := z1 + 2) hx hb dX11_firstImpossible_58 (by omega) ?_
          refine k_calli (As := [.int (iI (z1 + 2))]) (rest := [.int (iI z22), .int (iI z19), .ref (q t18)]) ⟨hx, hb, hml, hown, hts⟩ hE (kc_X7_at l dC dI cB cI cJ cZ cQ aL aS q _ (z1 + 2) hI (by omega)) (cwV 1 hts (goodVk (wk_in_11 _ (List.mem_of_getElem? (i := 52) rfl)) (wk_in_4 _ (List.mem_of_getElem? (i := 39) rfl)) (wk_in_4 _ (List.mem_of_getElem? (i := 40) rfl)) (wk_in_4 _ (List.mem_of_getElem? (i := 41) rfl)) (wk_in_4 _ (List.mem_of_getElem? (i := 42) rfl))) rfl rfl rfl (by decide +kernel) ⟨Nat.le_of_ble_eq_true rfl, Nat.le_of_ble_eq_true rfl⟩) hK hDD hA0 hP hS 1 7 (wkTP) rfl rfl hl.1 (Nat.le_of_ble_eq_true rfl) dX11_firstImpossible_59 (fun z25 A26 H locs hw27 hP hS => ?_)
          obtain ⟨rfl, hw27⟩ := hw27
          refine k_calli (As := [.int (iI z19), .int (iI z22), .int (iI z25)]) (rest := []) ⟨hx, hb, hml, hown, hts⟩ hE (kc_X9_toldAct l dC dI cB cI cJ cZ cQ aL aS q _ t18 z19 z22 z25 hI ht18 (rb hw21 (by decide) (by decide)) (rb hw24 (by decide) (by decide)) (rb hw27 (by decide) (by decide))) (cwV 3 hts (goodVk (wk_in_11 _ (List.mem_of_getElem? (i := 53) rfl)) (wk_in_11 _ (List.mem_of_getElem? (i := 54) rfl)) (wk_in_11 _ (List.mem_of_getElem? (i := 55) rfl)) (wk_in_0 _ (List.mem_of_getElem? (i := 6) rfl)) (wk_in_9 _ (List.mem_of_getElem? (i := 28) rfl))) rfl rfl rfl (by decide +kernel) ⟨Nat.le_of_ble_eq_true rfl, Nat.le_of_ble_eq_true rfl⟩) hK hDD hA0 hP hS t18 9 (wkT ht18) rfl rfl hl.1 (Nat.le_of_ble_eq_true rfl) dX11_firstImpossible_62 (fun z28 A29 H locs hw30 hP hS => ?_)
          obtain ⟨hI, hf31, hw30⟩ := hw30
          refine lv_iconst (v := iI (-1)) hx hb dX11_firstImpossible_65 (by decide +kernel) ?_
          refine lv_icmp_ne (tgt := 71) hx hb dX11_firstImpossible_66 (by decide) (fun c32 => ?_) (fun c32 => ?_)
          · have c32 : ¬ z28 = (-1) := mt (i_eq hw30 ⟨by decide, by decide⟩).mpr c32
            obtain ⟨z33, hz33, ez33⟩ := i_wrap (z2 + 1)
            refine lv_iinc (v := iI z33) (lv' := [(1, .int (iI z33)), (2, .int (iI z1)), (0, .ref (q 0))]) hx hb dX11_firstImpossible_71 hl (k := 1) rfl ((i_inc (by omega)).trans ez33) (by decide) rfl (fun ls hl => ?_)
            refine lv_iinc (v := iI (z1 + 3)) (lv' := [(2, .int (iI (z1 + 3))), (1, .int (iI z33)), (0, .ref (q 0))]) hx hb dX11_firstImpossible_74 hl (k := 1) rfl (i_inc (by omega)) (by decide) rfl (fun ls hl => ?_)
            refine lv_goto (tgt := 4) hx hb dX11_firstImpossible_77 (by decide) ?_
            exact ih6 _ (by omega) (z1 + 3) z33 _ _ _ _ (by omega) (by omega) rfl hI (fk.trans (fk.trans (fk.rf) hj3 rfl rfl) hf31 rfl rfl) hP hS (lv_sub hl [0, 1, 2] rfl)
          · have c32 : z28 = (-1) := (i_eq hw30 ⟨by decide, by decide⟩).mp c32
            refine lv_iload_n hx hb dX11_firstImpossible_69 rfl (lv_at hl 1 rfl) ?_
            exact RET z2 _ _ _ _ _ ⟨hI, fk.trans (fk.trans (fk.rf) hj3 rfl rfl) hf31 rfl rfl, f8⟩ hP hS dX11_firstImpossible_70
        · have c15 : ¬ z1 + 3 ≤ (A 1 1) := mt (i_le (by omega) (rb r13 (by decide) (by decide))).mpr c15
          refine lv_iload_n hx hb dX11_firstImpossible_28 rfl (lv_at hl 1 rfl) ?_
          exact RET z2 _ _ _ _ _ ⟨hI, fk.trans (fk.rf) hj3 rfl rfl, f8⟩ hP hS dX11_firstImpossible_29
  exact L4_5 _ 0 0 _ _ _ _ (by omega) (by omega) rfl hI (fk.rf) hP hS (lv_sub hl [0, 1, 2] rfl)

def ws_kc_X11_row : List Cond := .code yX11_row cX11_row 2 (some .int) :: WY
set_option maxHeartbeats 4000000 in
set_option maxRecDepth 100000 in
theorem kc_X11_row (l : Launch) (dC : Nat → ClassId) (dI : Nat → Nat → Nat) (cB cI cJ cZ cQ : ClassId) (aL aS : Nat) (q : Nat → Nat) (A : St) (hI : IK A) : KMi l yX11_row ws_kc_X11_row ({ frames := 7, cells := 0, slots := 0, locals := 168 } : Room) aL aS (dC, dI) (tyA cB cI cJ cZ cQ) (WK cB cI cJ cZ cQ q) A [.ref (q 0)] (fun z u => IK u ∧ fk [33, 34, 35, 37, 38, 39, 40, 42, 43, 44, 46, 47, 48, 49, 72, 74, 75, 76, 78, 79, 80, 81, 103, 105, 106, 107, 109, 110, 111, 112] [(1, 1)] A u ∧ ((-2147483648 ≤ z ∧ z ≤ 2147483647) ∧ u 1 1 = 0)) := by
  refine k_meti (cc := cX11_row) (maxL := 2) WK_adr (plainFor_of_name (by decide +kernel)) rfl (Nat.le_of_ble_eq_true rfl) (fun p e s m below meth c Q AS ls hx hb hml hown hts hK hDD hA0 hE RET H locs hP hS hl => ?_)
  have hown : s.vm.findClass RX11 = some m.cls := hown
  have hl : lv_has ls 2 [(0, .ref (q 0))] := hl
  have hiX11 : ∀ w ∈ u_ws RX11 TX11 11, w ∈ ws_kc_X11_row := fun w h => List.mem_cons_of_mem _ (wy_layX11 w h)
  have hiX9 : ∀ w ∈ u_ws RX9 TX9 16, w ∈ ws_kc_X11_row := fun w h => List.mem_cons_of_mem _ (wy_layX9 w h)
  have hiX7 : ∀ w ∈ u_ws RX7 TX7 2, w ∈ ws_kc_X11_row := fun w h => List.mem_cons_of_mem _ (wy_layX7 w h)
  refine lv_aload_n hx hb dX11_row_0 rfl (lv_at hl 0 rfl) ?_
  refine va_get (D := (dC, dI)) (ci := 11) (v := .ref (q 41)) (C := RX11) (T := TX11) (N := 11) hx hb hts hiX11 hown hK hP 0 (wkK) rfl 7 (by decide) (hts _ (List.mem_cons_of_mem _ (wk_in_11 _ (List.mem_of_getElem? (i := 46) rfl)))) (fun _ h9 => h9) rfl dX11_row_1 ?_
  refine lv_aload_n hx hb dX11_row_4 rfl (lv_at hl 0 rfl) ?_
  have r1 : (0 : Int) ≤ (A 0 9) ∧ (A 0 9) ≤ 1 := irK_9 hI
  obtain ⟨t2, et2⟩ : ∃ t : Nat, t = 51 + 31 * ((A 0 9)).toNat := ⟨_, rfl⟩
  have ht2 : isT t2 := by rw [et2]; exact isT.b r1
  refine va_get (D := (dC, dI)) (ci := 11) (v := .ref (q (51 + 31 * (A 0 9).toNat))) (C := RX11) (T := TX11) (N := 11) hx hb hts hiX11 hown hK hP 0 (wkK) rfl 9 (by decide) (hts _ (List.mem_cons_of_mem _ (wk_in_10 _ (List.mem_of_getElem? (i := 36) rfl)))) (fun _ h9 => h9) rfl dX11_row_5 ?_
  refine tp_v (y := .ref (q t2)) (by rw [et2]) ?_
  refine va_get (D := (dC, dI)) (ci := 9) (v := .ref (q (t2 + 22))) (C := RX9) (T := TX9) (N := 16) hx hb hts hiX9 hown hK hP t2 (wkT ht2) rfl 14 (by decide) (hts _ (List.mem_cons_of_mem _ (wk_in_11 _ (List.mem_of_getElem? (i := 5) rfl)))) (fun _ h9 => h9) rfl dX11_row_8 ?_
  refine k_callv (As := [.ref (q (t2 + 22))]) (rest := []) ⟨hx, hb, hml, hown, hts⟩ hE (kc_X6_copyFrom l dC dI cB cI cJ cZ cQ aL aS q _ 41 (t2 + 22) hI isS41 ht2.s) (cwV 1 hts (goodVk (wk_in_11 _ (List.mem_of_getElem? (i := 47) rfl)) (wk_in_4 _ (List.mem_of_getElem? (i := 33) rfl)) (wk_in_4 _ (List.mem_of_getElem? (i := 34) rfl)) (wk_in_0 _ (List.mem_of_getElem? (i := 52) rfl)) (wk_in_4 _ (List.mem_of_getElem? (i := 35) rfl))) rfl rfl rfl (by decide +kernel) ⟨Nat.le_of_ble_eq_true rfl, Nat.le_of_ble_eq_true rfl⟩) hK hDD hA0 hP hS 41 6 (wkS isS41) rfl rfl hl.1 (Nat.le_of_ble_eq_true rfl) dX11_row_11 (fun A3 H locs hw4 hP hS => ?_)
  obtain ⟨hI, hf5, hw4⟩ := hw4
  clear hw4
  refine lv_aload_n hx hb dX11_row_14 rfl (lv_at hl 0 rfl) ?_
  refine k_calli (As := []) (rest := []) ⟨hx, hb, hml, hown, hts⟩ hE (kc_X11_firstImpossible l dC dI cB cI cJ cZ cQ aL aS q _ hI) (cwV 0 hts (goodVk (wk_in_11 _ (List.mem_of_getElem? (i := 48) rfl)) (wk_in_11 _ (List.mem_of_getElem? (i := 49) rfl)) (wk_in_11 _ (List.mem_of_getElem? (i := 50) rfl)) (wk_in_10 _ (List.mem_of_getElem? (i := 26) rfl)) (wk_in_11 _ (List.mem_of_getElem? (i := 51) rfl))) rfl rfl rfl (by decide +kernel) ⟨Nat.le_of_ble_eq_true rfl, Nat.le_of_ble_eq_true rfl⟩) hK hDD hA0 hP hS 0 11 (wkK) rfl rfl hl.1 (Nat.le_of_ble_eq_true rfl) dX11_row_15 (fun z6 A7 H locs hw8 hP hS => ?_)
  obtain ⟨hI, hf9, hw8⟩ := hw8
  refine lv_istore_n (lv' := [(1, .int (iI z6)), (0, .ref (q 0))]) hx hb dX11_row_18 rfl hl (by decide) rfl (fun ls hl => ?_)
  refine lv_aload_n hx hb dX11_row_19 rfl (lv_at hl 1 rfl) ?_
  have e11 : A3 0 9 = (A 0 9) := (hf5 0 9 rfl rfl)
  have e10 : A7 0 9 = (A 0 9) := (hf9 0 9 rfl rfl).trans e11
  refine va_get (D := (dC, dI)) (ci := 11) (v := .ref (q (51 + 31 * (A7 0 9).toNat))) (C := RX11) (T := TX11) (N := 11) hx hb hts hiX11 hown hK hP 0 (wkK) rfl 9 (by decide) (hts _ (List.mem_cons_of_mem _ (wk_in_10 _ (List.mem_of_getElem? (i := 36) rfl)))) (fun _ h9 => h9) rfl dX11_row_20 ?_
  refine tp_v (y := .ref (q t2)) (by rw [et2, e10]) ?_
  refine va_get (D := (dC, dI)) (ci := 9) (v := .ref (q (t2 + 22))) (C := RX9) (T := TX9) (N := 16) hx hb hts hiX9 hown hK hP t2 (wkT ht2) rfl 14 (by decide) (hts _ (List.mem_cons_of_mem _ (wk_in_11 _ (List.mem_of_getElem? (i := 5) rfl)))) (fun _ h9 => h9) rfl dX11_row_23 ?_
  refine lv_aload_n hx hb dX11_row_26 rfl (lv_at hl 1 rfl) ?_
  refine va_get (D := (dC, dI)) (ci := 11) (v := .ref (q 41)) (C := RX11) (T := TX11) (N := 11) hx hb hts hiX11 hown hK hP 0 (wkK) rfl 7 (by decide) (hts _ (List.mem_cons_of_mem _ (wk_in_11 _ (List.mem_of_getElem? (i := 46) rfl)))) (fun _ h9 => h9) rfl dX11_row_27 ?_
  refine k_callv (As := [.ref (q 41)]) (rest := []) ⟨hx, hb, hml, hown, hts⟩ hE (kc_X6_copyFrom l dC dI cB cI cJ cZ cQ aL aS q _ (t2 + 22) 41 hI ht2.s isS41) (cwV 1 hts (goodVk (wk_in_11 _ (List.mem_of_getElem? (i := 47) rfl)) (wk_in_4 _ (List.mem_of_getElem? (i := 33) rfl)) (wk_in_4 _ (List.mem_of_getElem? (i := 34) rfl)) (wk_in_0 _ (List.mem_of_getElem? (i := 52) rfl)) (wk_in_4 _ (List.mem_of_getElem? (i := 35) rfl))) rfl rfl rfl (by decide +kernel) ⟨Nat.le_of_ble_eq_true rfl, Nat.le_of_ble_eq_true rfl⟩) hK hDD hA0 hP hS (t2 + 22) 6 (wkS ht2.s) rfl rfl hl.1 (Nat.le_of_ble_eq_true rfl) dX11_row_30 (fun A12 H locs hw13 hP hS => ?_)
  obtain ⟨hI, hf14, hw13⟩ := hw13
  clear hw13
  refine lv_aload_n hx hb dX11_row_33 rfl (lv_at hl 1 rfl) ?_
  refine va_get (D := (dC, dI)) (ci := 11) (v := .ref (q 1)) (C := RX11) (T := TX11) (N := 11) hx hb hts hiX11 hown hK hP 0 (wkK) rfl 0 (by decide) (hts _ (List.mem_cons_of_mem _ (wk_in_10 _ (List.mem_of_getElem? (i := 18) rfl)))) (fun _ h9 => h9) rfl dX11_row_34 ?_
  refine lv_iconst (v := iI 0) hx hb dX11_row_37 (by decide +kernel) ?_
  refine k_put (Wf := WK cB cI cJ cZ cQ q) (D := (dC, dI)) (ci := 7) (v := .int (iI 0)) (ty := .int) (C := RX7) (T := TX7) (N := 2) hx hb hts hiX7 tyX7 tyX7_ok nmX7 hown hK hP hDD hS 1 (wkTP) rfl 1 (by decide) (hts _ (List.mem_cons_of_mem _ (wk_in_10 _ (List.mem_of_getElem? (i := 19) rfl)))) (fun _ h9 => h9) rfl (by decide +kernel) rfl rfl (Nat.le_of_ble_eq_true rfl) dX11_row_38 (wfTP_1 (v := 0)) (fun H locs A15 hA15 hP hS => ?_)
  have hI := isTP_1 hA15 hI (show (0 : Int) ≤ 0 ∧ 0 ≤ 1600 from ⟨by decide, by decide⟩)
  refine lv_iload_n hx hb dX11_row_41 rfl (lv_at hl 0 rfl) ?_
  have e16 : A15 1 1 = 0 := rd_is hA15
  exact RET z6 _ _ _ _ _ ⟨hI, fk.df (fk.trans (fk.trans (fk.trans (fk.rf) hf5 rfl rfl) hf9 rfl rfl) hf14 rfl rfl) hA15 rfl, by omega⟩ hP hS dX11_row_42

def ws_kc_X11_reach : List Cond := .code yX11_reach cX11_reach 3 (some .int) :: WY
set_option maxHeartbeats 4000000 in
set_option maxRecDepth 100000 in
theorem kc_X11_reach (l : Launch) (dC : Nat → ClassId) (dI : Nat → Nat → Nat) (cB cI cJ cZ cQ : ClassId) (aL aS : Nat) (q : Nat → Nat) (A : St) (x1 x2 : Int) (hI : IK A) (hx1 : (-2147483648 : Int) ≤ x1 ∧ x1 ≤ 2147483647) (hx2 : (-2147483648 : Int) ≤ x2 ∧ x2 ≤ 2147483647) : KMi l yX11_reach ws_kc_X11_reach ({ frames := 6, cells := 0, slots := 0, locals := 155 } : Room) aL aS (dC, dI) (tyA cB cI cJ cZ cQ) (WK cB cI cJ cZ cQ q) A [.ref (q 0), .int (iI x1), .int (iI x2)] (fun z u => IK u ∧ fk [7, 9, 10, 11, 12, 13, 14, 15, 16, 17, 18, 19, 72, 103] [(6, 7), (6, 8), (6, 9), (6, 10), (6, 11), (6, 12), (6, 13), (6, 14), (6, 15)] A u ∧ (-2147483648 ≤ z ∧ z ≤ 2147483647)) := by
  refine k_meti (cc := cX11_reach) (maxL := 3) WK_adr (plainFor_of_name (by decide +kernel)) rfl (Nat.le_of_ble_eq_true rfl) (fun p e s m below meth c Q AS ls hx hb hml hown hts hK hDD hA0 hE RET H locs hP hS hl => ?_)
  have hown : s.vm.findClass RX11 = some m.cls := hown
  have hl : lv_has ls 3 [(0, .ref (q 0)), (1, .int (iI x1)), (2, .int (iI x2))] := hl
  have hiX11 : ∀ w ∈ u_ws RX11 TX11 11, w ∈ ws_kc_X11_reach := fun w h => List.mem_cons_of_mem _ (wy_layX11 w h)
  refine lv_aload_n hx hb dX11_reach_0 rfl (lv_at hl 0 rfl) ?_
  have r1 : (0 : Int) ≤ (A 0 9) ∧ (A 0 9) ≤ 1 := irK_9 hI
  obtain ⟨t2, et2⟩ : ∃ t : Nat, t = 51 + 31 * ((A 0 9)).toNat := ⟨_, rfl⟩
  have ht2 : isT t2 := by rw [et2]; exact isT.b r1
  refine va_get (D := (dC, dI)) (ci := 11) (v := .ref (q (51 + 31 * (A 0 9).toNat))) (C := RX11) (T := TX11) (N := 11) hx hb hts hiX11 hown hK hP 0 (wkK) rfl 9 (by decide) (hts _ (List.mem_cons_of_mem _ (wk_in_10 _ (List.mem_of_getElem? (i := 36) rfl)))) (fun _ h9 => h9) rfl dX11_reach_1 ?_
  refine tp_v (y := .ref (q t2)) (by rw [et2]) ?_
  refine lv_iconst (v := iI 3) hx hb dX11_reach_4 (by decide +kernel) ?_
  refine lv_iload_n hx hb dX11_reach_5 rfl (lv_at hl 1 rfl) ?_
  refine k_calli (As := [.int (iI 3), .int (iI x1)]) (rest := []) ⟨hx, hb, hml, hown, hts⟩ hE (kc_X9_isThere_1_3 l dC dI cB cI cJ cZ cQ aL aS q _ t2 x1 hI ht2 hx1) (cwV 2 hts (goodVk (wk_in_10 _ (List.mem_of_getElem? (i := 54) rfl)) (wk_in_0 _ (List.mem_of_getElem? (i := 22) rfl)) (wk_in_0 _ (List.mem_of_getElem? (i := 23) rfl)) (wk_in_0 _ (List.mem_of_getElem? (i := 6) rfl)) (wk_in_0 _ (List.mem_of_getElem? (i := 24) rfl))) rfl rfl rfl (by decide +kernel) ⟨Nat.le_of_ble_eq_true rfl, Nat.le_of_ble_eq_true rfl⟩) hK hDD hA0 hP hS t2 9 (wkT ht2) rfl rfl hl.1 (Nat.le_of_ble_eq_true rfl) dX11_reach_6 (fun z3 A4 H locs hw5 hP hS => ?_)
  obtain ⟨rfl, hw5⟩ := hw5
  have rz3 : 0 ≤ z3 ∧ z3 ≤ 1 := hw5.1
  have hw5 := hw5.2
  refine lv_if_eq (tgt := 24) hx hb dX11_reach_9 (by decide) (fun c6 => ?_) (fun c6 => ?_)
  · have c6 : z3 = 0 := (i_eq0 (rb rz3 (by decide) (by decide))).mp c6
    clear hw5
    refine lv_iconst (v := iI (-1)) hx hb dX11_reach_24 (by decide +kernel) ?_
    exact RET (-1) _ _ _ _ _ ⟨hI, fk.rf, ⟨by decide, by decide⟩⟩ hP hS dX11_reach_25
  · have c6 : ¬ z3 = 0 := mt (i_eq0 (rb rz3 (by decide) (by decide))).mpr c6
    have hw5b := hw5 (by omega)
    clear hw5
    refine lv_aload_n hx hb dX11_reach_12 rfl (lv_at hl 0 rfl) ?_
    refine va_get (D := (dC, dI)) (ci := 11) (v := .ref (q (51 + 31 * (A 0 9).toNat))) (C := RX11) (T := TX11) (N := 11) hx hb hts hiX11 hown hK hP 0 (wkK) rfl 9 (by decide) (hts _ (List.mem_cons_of_mem _ (wk_in_10 _ (List.mem_of_getElem? (i := 36) rfl)))) (fun _ h9 => h9) rfl dX11_reach_13 ?_
    refine tp_v (y := .ref (q t2)) (by rw [et2]) ?_
    refine lv_iconst (v := iI 0) hx hb dX11_reach_16 (by decide +kernel) ?_
    refine lv_iload_n hx hb dX11_reach_17 rfl (lv_at hl 2 rfl) ?_
    refine k_calli (As := [.int (iI 0), .int (iI x2)]) (rest := []) ⟨hx, hb, hml, hown, hts⟩ hE (kc_X9_isThere_1_0 l dC dI cB cI cJ cZ cQ aL aS q _ t2 x2 hI ht2 hx2) (cwV 2 hts (goodVk (wk_in_10 _ (List.mem_of_getElem? (i := 54) rfl)) (wk_in_0 _ (List.mem_of_getElem? (i := 22) rfl)) (wk_in_0 _ (List.mem_of_getElem? (i := 23) rfl)) (wk_in_0 _ (List.mem_of_getElem? (i := 6) rfl)) (wk_in_0 _ (List.mem_of_getElem? (i := 24) rfl))) rfl rfl rfl (by decide +kernel) ⟨Nat.le_of_ble_eq_true rfl, Nat.le_of_ble_eq_true rfl⟩) hK hDD hA0 hP hS t2 9 (wkT ht2) rfl rfl hl.1 (Nat.le_of_ble_eq_true rfl) dX11_reach_18 (fun z7 A8 H locs hw9 hP hS => ?_)
    obtain ⟨rfl, hw9⟩ := hw9
    have rz7 : 0 ≤ z7 ∧ z7 ≤ 1 := hw9.1
    have hw9 := hw9.2
    refine lv_if_ne (tgt := 26) hx hb dX11_reach_21 (by decide) (fun c10 => ?_) (fun c10 => ?_)
    · have c10 : ¬ z7 = 0 := mt (i_eq0 (rb rz7 (by decide) (by decide))).mpr c10
      have hw9b := hw9 (by omega)
      clear hw9
      refine lv_aload_n hx hb dX11_reach_26 rfl (lv_at hl 0 rfl) ?_
      refine va_get (D := (dC, dI)) (ci := 11) (v := .ref (q 6)) (C := RX11) (T := TX11) (N := 11) hx hb hts hiX11 hown hK hP 0 (wkK) rfl 2 (by decide) (hts _ (List.mem_cons_of_mem _ (wk_in_11 _ (List.mem_of_getElem? (i := 13) rfl)))) (fun _ h9 => h9) rfl dX11_reach_27 ?_
      refine lv_aload_n hx hb dX11_reach_30 rfl (lv_at hl 0 rfl) ?_
      refine va_get (D := (dC, dI)) (ci := 11) (v := .ref (q (51 + 31 * (A 0 9).toNat))) (C := RX11) (T := TX11) (N := 11) hx hb hts hiX11 hown hK hP 0 (wkK) rfl 9 (by decide) (hts _ (List.mem_cons_of_mem _ (wk_in_10 _ (List.mem_of_getElem? (i := 36) rfl)))) (fun _ h9 => h9) rfl dX11_reach_31 ?_
      refine tp_v (y := .ref (q t2)) (by rw [et2]) ?_
      refine lv_iload_n hx hb dX11_reach_34 rfl (lv_at hl 1 rfl) ?_
      refine lv_aload_n hx hb dX11_reach_35 rfl (lv_at hl 0 rfl) ?_
      refine va_get (D := (dC, dI)) (ci := 11) (v := .ref (q (51 + 31 * (A 0 9).toNat))) (C := RX11) (T := TX11) (N := 11) hx hb hts hiX11 hown hK hP 0 (wkK) rfl 9 (by decide) (hts _ (List.mem_cons_of_mem _ (wk_in_10 _ (List.mem_of_getElem? (i := 36) rfl)))) (fun _ h9 => h9) rfl dX11_reach_36 ?_
      refine tp_v (y := .ref (q t2)) (by rw [et2]) ?_
      refine lv_iload_n hx hb dX11_reach_39 rfl (lv_at hl 1 rfl) ?_
      refine k_calli (As := [.int (iI x1)]) (rest := [.int (iI x1), .ref (q t2), .ref (q 6)]) ⟨hx, hb, hml, hown, hts⟩ hE (kc_X9_keysOf l dC dI cB cI cJ cZ cQ aL aS q _ t2 x1 hI ht2 hx1) (cwV 1 hts (goodVk (wk_in_11 _ (List.mem_of_getElem? (i := 14) rfl)) (wk_in_0 _ (List.mem_of_getElem? (i := 4) rfl)) (wk_in_0 _ (List.mem_of_getElem? (i := 5) rfl)) (wk_in_0 _ (List.mem_of_getElem? (i := 6) rfl)) (wk_in_0 _ (List.mem_of_getElem? (i := 7) rfl))) rfl rfl rfl (by decide +kernel) ⟨Nat.le_of_ble_eq_true rfl, Nat.le_of_ble_eq_true rfl⟩) hK hDD hA0 hP hS t2 9 (wkT ht2) rfl rfl hl.1 (Nat.le_of_ble_eq_true rfl) dX11_reach_40 (fun z11 A12 H locs hw13 hP hS => ?_)
      obtain ⟨rfl, hw13⟩ := hw13
      refine lv_iconst (v := iI 0) hx hb dX11_reach_43 (by decide +kernel) ?_
      refine lv_iload_n hx hb dX11_reach_44 rfl (lv_at hl 2 rfl) ?_
      refine k_calli (As := [.ref (q t2), .int (iI x1), .int (iI z11), .int (iI 0), .int (iI x2)]) (rest := []) ⟨hx, hb, hml, hown, hts⟩ hE (kc_X0_search l dC dI cB cI cJ cZ cQ aL aS q _ t2 x1 z11 0 x2 hI ht2 hx1 hw13 ⟨by decide, by decide⟩ hx2) (cwV 5 hts (goodVk (wk_in_11 _ (List.mem_of_getElem? (i := 57) rfl)) (wk_in_0 _ (List.mem_of_getElem? (i := 12) rfl)) (wk_in_0 _ (List.mem_of_getElem? (i := 13) rfl)) (wk_in_0 _ (List.mem_of_getElem? (i := 14) rfl)) (wk_in_0 _ (List.mem_of_getElem? (i := 15) rfl))) rfl rfl rfl (by decide +kernel) ⟨Nat.le_of_ble_eq_true rfl, Nat.le_of_ble_eq_true rfl⟩) hK hDD hA0 hP hS 6 0 (wkAL) rfl rfl hl.1 (Nat.le_of_ble_eq_true rfl) dX11_reach_45 (fun z14 A15 H locs hw16 hP hS => ?_)
      obtain ⟨hI, hf17, hw16⟩ := hw16
      exact RET z14 _ _ _ _ _ ⟨hI, fk.trans (fk.rf) hf17 rfl rfl, hw16⟩ hP hS dX11_reach_48
    · have c10 : z7 = 0 := (i_eq0 (rb rz7 (by decide) (by decide))).mp c10
      clear hw9
      refine lv_iconst (v := iI (-1)) hx hb dX11_reach_24 (by decide +kernel) ?_
      exact RET (-1) _ _ _ _ _ ⟨hI, fk.rf, ⟨by decide, by decide⟩⟩ hP hS dX11_reach_25

def ws_kc_X11_opens : List Cond := .code yX11_opens cX11_opens 3 (some .int) :: WY
set_option maxHeartbeats 4000000 in
set_option maxRecDepth 100000 in
theorem kc_X11_opens (l : Launch) (dC : Nat → ClassId) (dI : Nat → Nat → Nat) (cB cI cJ cZ cQ : ClassId) (aL aS : Nat) (q : Nat → Nat) (A : St) (x1 x2 : Int) (hI : IK A) (hx1 : (-2147483648 : Int) ≤ x1 ∧ x1 ≤ 2147483647) (hx2 : (-2147483648 : Int) ≤ x2 ∧ x2 ≤ 2147483647) : KMi l yX11_opens ws_kc_X11_opens ({ frames := 6, cells := 0, slots := 0, locals := 155 } : Room) aL aS (dC, dI) (tyA cB cI cJ cZ cQ) (WK cB cI cJ cZ cQ q) A [.ref (q 0), .int (iI x1), .int (iI x2)] (fun z u => IK u ∧ fk [7, 9, 10, 11, 12, 13, 14, 15, 16, 17, 18, 19, 72, 103] [(6, 7), (6, 8), (6, 9), (6, 10), (6, 11), (6, 12), (6, 13), (6, 14), (6, 15)] A u ∧ (-2147483648 ≤ z ∧ z ≤ 2147483647)) := by
  refine k_meti (cc := cX11_opens) (maxL := 3) WK_adr (plainFor_of_name (by decide +kernel)) rfl (Nat.le_of_ble_eq_true rfl) (fun p e s m below meth c Q AS ls hx hb hml hown hts hK hDD hA0 hE RET H locs hP hS hl => ?_)
  have hown : s.vm.findClass RX11 = some m.cls := hown
  have hl : lv_has ls 3 [(0, .ref (q 0)), (1, .int (iI x1)), (2, .int (iI x2))] := hl
  have hiX11 : ∀ w ∈ u_ws RX11 TX11 11, w ∈ ws_kc_X11_opens := fun w h => List.mem_cons_of_mem _ (wy_layX11 w h)
  refine lv_aload_n hx hb dX11_opens_0 rfl (lv_at hl 0 rfl) ?_
  have r1 : (0 : Int) ≤ (A 0 9) ∧ (A 0 9) ≤ 1 := irK_9 hI
  obtain ⟨t2, et2⟩ : ∃ t : Nat, t = 51 + 31 * ((A 0 9)).toNat := ⟨_, rfl⟩
  have ht2 : isT t2 := by rw [et2]; exact isT.b r1
  refine va_get (D := (dC, dI)) (ci := 11) (v := .ref (q (51 + 31 * (A 0 9).toNat))) (C := RX11) (T := TX11) (N := 11) hx hb hts hiX11 hown hK hP 0 (wkK) rfl 9 (by decide) (hts _ (List.mem_cons_of_mem _ (wk_in_10 _ (List.mem_of_getElem? (i := 36) rfl)))) (fun _ h9 => h9) rfl dX11_opens_1 ?_
  refine tp_v (y := .ref (q t2)) (by rw [et2]) ?_
  refine lv_iconst (v := iI 3) hx hb dX11_opens_4 (by decide +kernel) ?_
  refine lv_iload_n hx hb dX11_opens_5 rfl (lv_at hl 1 rfl) ?_
  refine k_calli (As := [.int (iI 3), .int (iI x1)]) (rest := []) ⟨hx, hb, hml, hown, hts⟩ hE (kc_X9_isThere_1_3 l dC dI cB cI cJ cZ cQ aL aS q _ t2 x1 hI ht2 hx1) (cwV 2 hts (goodVk (wk_in_10 _ (List.mem_of_getElem? (i := 54) rfl)) (wk_in_0 _ (List.mem_of_getElem? (i := 22) rfl)) (wk_in_0 _ (List.mem_of_getElem? (i := 23) rfl)) (wk_in_0 _ (List.mem_of_getElem? (i := 6) rfl)) (wk_in_0 _ (List.mem_of_getElem? (i := 24) rfl))) rfl rfl rfl (by decide +kernel) ⟨Nat.le_of_ble_eq_true rfl, Nat.le_of_ble_eq_true rfl⟩) hK hDD hA0 hP hS t2 9 (wkT ht2) rfl rfl hl.1 (Nat.le_of_ble_eq_true rfl) dX11_opens_6 (fun z3 A4 H locs hw5 hP hS => ?_)
  obtain ⟨rfl, hw5⟩ := hw5
  have rz3 : 0 ≤ z3 ∧ z3 ≤ 1 := hw5.1
  have hw5 := hw5.2
  refine lv_if_eq (tgt := 24) hx hb dX11_opens_9 (by decide) (fun c6 => ?_) (fun c6 => ?_)
  · have c6 : z3 = 0 := (i_eq0 (rb rz3 (by decide) (by decide))).mp c6
    clear hw5
    refine lv_iconst (v := iI (-1)) hx hb dX11_opens_24 (by decide +kernel) ?_
    exact RET (-1) _ _ _ _ _ ⟨hI, fk.rf, ⟨by decide, by decide⟩⟩ hP hS dX11_opens_25
  · have c6 : ¬ z3 = 0 := mt (i_eq0 (rb rz3 (by decide) (by decide))).mpr c6
    have hw5b := hw5 (by omega)
    clear hw5
    refine lv_aload_n hx hb dX11_opens_12 rfl (lv_at hl 0 rfl) ?_
    refine va_get (D := (dC, dI)) (ci := 11) (v := .ref (q (51 + 31 * (A 0 9).toNat))) (C := RX11) (T := TX11) (N := 11) hx hb hts hiX11 hown hK hP 0 (wkK) rfl 9 (by decide) (hts _ (List.mem_cons_of_mem _ (wk_in_10 _ (List.mem_of_getElem? (i := 36) rfl)))) (fun _ h9 => h9) rfl dX11_opens_13 ?_
    refine tp_v (y := .ref (q t2)) (by rw [et2]) ?_
    refine lv_iconst (v := iI 1) hx hb dX11_opens_16 (by decide +kernel) ?_
    refine lv_iload_n hx hb dX11_opens_17 rfl (lv_at hl 2 rfl) ?_
    refine k_calli (As := [.int (iI 1), .int (iI x2)]) (rest := []) ⟨hx, hb, hml, hown, hts⟩ hE (kc_X9_isThere_1_1 l dC dI cB cI cJ cZ cQ aL aS q _ t2 x2 hI ht2 hx2) (cwV 2 hts (goodVk (wk_in_10 _ (List.mem_of_getElem? (i := 54) rfl)) (wk_in_0 _ (List.mem_of_getElem? (i := 22) rfl)) (wk_in_0 _ (List.mem_of_getElem? (i := 23) rfl)) (wk_in_0 _ (List.mem_of_getElem? (i := 6) rfl)) (wk_in_0 _ (List.mem_of_getElem? (i := 24) rfl))) rfl rfl rfl (by decide +kernel) ⟨Nat.le_of_ble_eq_true rfl, Nat.le_of_ble_eq_true rfl⟩) hK hDD hA0 hP hS t2 9 (wkT ht2) rfl rfl hl.1 (Nat.le_of_ble_eq_true rfl) dX11_opens_18 (fun z7 A8 H locs hw9 hP hS => ?_)
    obtain ⟨rfl, hw9⟩ := hw9
    have rz7 : 0 ≤ z7 ∧ z7 ≤ 1 := hw9.1
    have hw9 := hw9.2
    refine lv_if_ne (tgt := 26) hx hb dX11_opens_21 (by decide) (fun c10 => ?_) (fun c10 => ?_)
    · have c10 : ¬ z7 = 0 := mt (i_eq0 (rb rz7 (by decide) (by decide))).mpr c10
      have hw9b := hw9 (by omega)
      clear hw9
      refine lv_aload_n hx hb dX11_opens_26 rfl (lv_at hl 0 rfl) ?_
      refine va_get (D := (dC, dI)) (ci := 11) (v := .ref (q 6)) (C := RX11) (T := TX11) (N := 11) hx hb hts hiX11 hown hK hP 0 (wkK) rfl 2 (by decide) (hts _ (List.mem_cons_of_mem _ (wk_in_11 _ (List.mem_of_getElem? (i := 13) rfl)))) (fun _ h9 => h9) rfl dX11_opens_27 ?_
      refine lv_aload_n hx hb dX11_opens_30 rfl (lv_at hl 0 rfl) ?_
      refine va_get (D := (dC, dI)) (ci := 11) (v := .ref (q (51 + 31 * (A 0 9).toNat))) (C := RX11) (T := TX11) (N := 11) hx hb hts hiX11 hown hK hP 0 (wkK) rfl 9 (by decide) (hts _ (List.mem_cons_of_mem _ (wk_in_10 _ (List.mem_of_getElem? (i := 36) rfl)))) (fun _ h9 => h9) rfl dX11_opens_31 ?_
      refine tp_v (y := .ref (q t2)) (by rw [et2]) ?_
      refine lv_iload_n hx hb dX11_opens_34 rfl (lv_at hl 1 rfl) ?_
      refine lv_aload_n hx hb dX11_opens_35 rfl (lv_at hl 0 rfl) ?_
      refine va_get (D := (dC, dI)) (ci := 11) (v := .ref (q (51 + 31 * (A 0 9).toNat))) (C := RX11) (T := TX11) (N := 11) hx hb hts hiX11 hown hK hP 0 (wkK) rfl 9 (by decide) (hts _ (List.mem_cons_of_mem _ (wk_in_10 _ (List.mem_of_getElem? (i := 36) rfl)))) (fun _ h9 => h9) rfl dX11_opens_36 ?_
      refine tp_v (y := .ref (q t2)) (by rw [et2]) ?_
      refine lv_iload_n hx hb dX11_opens_39 rfl (lv_at hl 1 rfl) ?_
      refine k_calli (As := [.int (iI x1)]) (rest := [.int (iI x1), .ref (q t2), .ref (q 6)]) ⟨hx, hb, hml, hown, hts⟩ hE (kc_X9_keysOf l dC dI cB cI cJ cZ cQ aL aS q _ t2 x1 hI ht2 hx1) (cwV 1 hts (goodVk (wk_in_11 _ (List.mem_of_getElem? (i := 14) rfl)) (wk_in_0 _ (List.mem_of_getElem? (i := 4) rfl)) (wk_in_0 _ (List.mem_of_getElem? (i := 5) rfl)) (wk_in_0 _ (List.mem_of_getElem? (i := 6) rfl)) (wk_in_0 _ (List.mem_of_getElem? (i := 7) rfl))) rfl rfl rfl (by decide +kernel) ⟨Nat.le_of_ble_eq_true rfl, Nat.le_of_ble_eq_true rfl⟩) hK hDD hA0 hP hS t2 9 (wkT ht2) rfl rfl hl.1 (Nat.le_of_ble_eq_true rfl) dX11_opens_40 (fun z11 A12 H locs hw13 hP hS => ?_)
      obtain ⟨rfl, hw13⟩ := hw13
      refine lv_iconst (v := iI 1) hx hb dX11_opens_43 (by decide +kernel) ?_
      refine lv_iload_n hx hb dX11_opens_44 rfl (lv_at hl 2 rfl) ?_
      refine k_calli (As := [.ref (q t2), .int (iI x1), .int (iI z11), .int (iI 1), .int (iI x2)]) (rest := []) ⟨hx, hb, hml, hown, hts⟩ hE (kc_X0_search l dC dI cB cI cJ cZ cQ aL aS q _ t2 x1 z11 1 x2 hI ht2 hx1 hw13 ⟨by decide, by decide⟩ hx2) (cwV 5 hts (goodVk (wk_in_11 _ (List.mem_of_getElem? (i := 57) rfl)) (wk_in_0 _ (List.mem_of_getElem? (i := 12) rfl)) (wk_in_0 _ (List.mem_of_getElem? (i := 13) rfl)) (wk_in_0 _ (List.mem_of_getElem? (i := 14) rfl)) (wk_in_0 _ (List.mem_of_getElem? (i := 15) rfl))) rfl rfl rfl (by decide +kernel) ⟨Nat.le_of_ble_eq_true rfl, Nat.le_of_ble_eq_true rfl⟩) hK hDD hA0 hP hS 6 0 (wkAL) rfl rfl hl.1 (Nat.le_of_ble_eq_true rfl) dX11_opens_45 (fun z14 A15 H locs hw16 hP hS => ?_)
      obtain ⟨hI, hf17, hw16⟩ := hw16
      exact RET z14 _ _ _ _ _ ⟨hI, fk.trans (fk.rf) hf17 rfl rfl, hw16⟩ hP hS dX11_opens_48
    · have c10 : z7 = 0 := (i_eq0 (rb rz7 (by decide) (by decide))).mp c10
      clear hw9
      refine lv_iconst (v := iI (-1)) hx hb dX11_opens_24 (by decide +kernel) ?_
      exact RET (-1) _ _ _ _ _ ⟨hI, fk.rf, ⟨by decide, by decide⟩⟩ hP hS dX11_opens_25

def ws_kc_X11_errands : List Cond := .code yX11_errands cX11_errands 2 (some .int) :: WY
set_option maxHeartbeats 4000000 in
set_option maxRecDepth 100000 in
theorem kc_X11_errands (l : Launch) (dC : Nat → ClassId) (dI : Nat → Nat → Nat) (cB cI cJ cZ cQ : ClassId) (aL aS : Nat) (q : Nat → Nat) (A : St) (x1 : Int) (hI : IK A) (hx1 : (-2147483648 : Int) ≤ x1 ∧ x1 ≤ 2147483647) : KMi l yX11_errands ws_kc_X11_errands ({ frames := 6, cells := 0, slots := 0, locals := 155 } : Room) aL aS (dC, dI) (tyA cB cI cJ cZ cQ) (WK cB cI cJ cZ cQ q) A [.ref (q 0), .int (iI x1)] (fun z u => IK u ∧ fk [7, 9, 10, 11, 12, 13, 14, 15, 16, 17, 18, 19, 72, 103] [(6, 7), (6, 8), (6, 9), (6, 10), (6, 11), (6, 12), (6, 13), (6, 14), (6, 15)] A u ∧ (-2147483648 ≤ z ∧ z ≤ 2147483647)) := by
  refine k_meti (cc := cX11_errands) (maxL := 2) WK_adr (plainFor_of_name (by decide +kernel)) rfl (Nat.le_of_ble_eq_true rfl) (fun p e s m below meth c Q AS ls hx hb hml hown hts hK hDD hA0 hE RET H locs hP hS hl => ?_)
  have hown : s.vm.findClass RX11 = some m.cls := hown
  have hl : lv_has ls 2 [(0, .ref (q 0)), (1, .int (iI x1))] := hl
  have hiX11 : ∀ w ∈ u_ws RX11 TX11 11, w ∈ ws_kc_X11_errands := fun w h => List.mem_cons_of_mem _ (wy_layX11 w h)
  refine lv_aload_n hx hb dX11_errands_0 rfl (lv_at hl 0 rfl) ?_
  have r1 : (0 : Int) ≤ (A 0 9) ∧ (A 0 9) ≤ 1 := irK_9 hI
  obtain ⟨t2, et2⟩ : ∃ t : Nat, t = 51 + 31 * ((A 0 9)).toNat := ⟨_, rfl⟩
  have ht2 : isT t2 := by rw [et2]; exact isT.b r1
  refine va_get (D := (dC, dI)) (ci := 11) (v := .ref (q (51 + 31 * (A 0 9).toNat))) (C := RX11) (T := TX11) (N := 11) hx hb hts hiX11 hown hK hP 0 (wkK) rfl 9 (by decide) (hts _ (List.mem_cons_of_mem _ (wk_in_10 _ (List.mem_of_getElem? (i := 36) rfl)))) (fun _ h9 => h9) rfl dX11_errands_1 ?_
  refine tp_v (y := .ref (q t2)) (by rw [et2]) ?_
  refine lv_iconst (v := iI 3) hx hb dX11_errands_4 (by decide +kernel) ?_
  refine lv_iload_n hx hb dX11_errands_5 rfl (lv_at hl 1 rfl) ?_
  refine k_calli (As := [.int (iI 3), .int (iI x1)]) (rest := []) ⟨hx, hb, hml, hown, hts⟩ hE (kc_X9_isThere_1_3 l dC dI cB cI cJ cZ cQ aL aS q _ t2 x1 hI ht2 hx1) (cwV 2 hts (goodVk (wk_in_10 _ (List.mem_of_getElem? (i := 54) rfl)) (wk_in_0 _ (List.mem_of_getElem? (i := 22) rfl)) (wk_in_0 _ (List.mem_of_getElem? (i := 23) rfl)) (wk_in_0 _ (List.mem_of_getElem? (i := 6) rfl)) (wk_in_0 _ (List.mem_of_getElem? (i := 24) rfl))) rfl rfl rfl (by decide +kernel) ⟨Nat.le_of_ble_eq_true rfl, Nat.le_of_ble_eq_true rfl⟩) hK hDD hA0 hP hS t2 9 (wkT ht2) rfl rfl hl.1 (Nat.le_of_ble_eq_true rfl) dX11_errands_6 (fun z3 A4 H locs hw5 hP hS => ?_)
  obtain ⟨rfl, hw5⟩ := hw5
  have rz3 : 0 ≤ z3 ∧ z3 ≤ 1 := hw5.1
  have hw5 := hw5.2
  refine lv_if_ne (tgt := 14) hx hb dX11_errands_9 (by decide) (fun c6 => ?_) (fun c6 => ?_)
  · have c6 : ¬ z3 = 0 := mt (i_eq0 (rb rz3 (by decide) (by decide))).mpr c6
    have hw5b := hw5 (by omega)
    clear hw5
    refine lv_aload_n hx hb dX11_errands_14 rfl (lv_at hl 0 rfl) ?_
    refine va_get (D := (dC, dI)) (ci := 11) (v := .ref (q 6)) (C := RX11) (T := TX11) (N := 11) hx hb hts hiX11 hown hK hP 0 (wkK) rfl 2 (by decide) (hts _ (List.mem_cons_of_mem _ (wk_in_11 _ (List.mem_of_getElem? (i := 13) rfl)))) (fun _ h9 => h9) rfl dX11_errands_15 ?_
    refine lv_aload_n hx hb dX11_errands_18 rfl (lv_at hl 0 rfl) ?_
    refine va_get (D := (dC, dI)) (ci := 11) (v := .ref (q (51 + 31 * (A 0 9).toNat))) (C := RX11) (T := TX11) (N := 11) hx hb hts hiX11 hown hK hP 0 (wkK) rfl 9 (by decide) (hts _ (List.mem_cons_of_mem _ (wk_in_10 _ (List.mem_of_getElem? (i := 36) rfl)))) (fun _ h9 => h9) rfl dX11_errands_19 ?_
    refine tp_v (y := .ref (q t2)) (by rw [et2]) ?_
    refine lv_iload_n hx hb dX11_errands_22 rfl (lv_at hl 1 rfl) ?_
    refine lv_aload_n hx hb dX11_errands_23 rfl (lv_at hl 0 rfl) ?_
    refine va_get (D := (dC, dI)) (ci := 11) (v := .ref (q (51 + 31 * (A 0 9).toNat))) (C := RX11) (T := TX11) (N := 11) hx hb hts hiX11 hown hK hP 0 (wkK) rfl 9 (by decide) (hts _ (List.mem_cons_of_mem _ (wk_in_10 _ (List.mem_of_getElem? (i := 36) rfl)))) (fun _ h9 => h9) rfl dX11_errands_24 ?_
    refine tp_v (y := .ref (q t2)) (by rw [et2]) ?_
    refine lv_iload_n hx hb dX11_errands_27 rfl (lv_at hl 1 rfl) ?_
    refine k_calli (As := [.int (iI x1)]) (rest := [.int (iI x1), .ref (q t2), .ref (q 6)]) ⟨hx, hb, hml, hown, hts⟩ hE (kc_X9_keysOf l dC dI cB cI cJ cZ cQ aL aS q _ t2 x1 hI ht2 hx1) (cwV 1 hts (goodVk (wk_in_11 _ (List.mem_of_getElem? (i := 14) rfl)) (wk_in_0 _ (List.mem_of_getElem? (i := 4) rfl)) (wk_in_0 _ (List.mem_of_getElem? (i := 5) rfl)) (wk_in_0 _ (List.mem_of_getElem? (i := 6) rfl)) (wk_in_0 _ (List.mem_of_getElem? (i := 7) rfl))) rfl rfl rfl (by decide +kernel) ⟨Nat.le_of_ble_eq_true rfl, Nat.le_of_ble_eq_true rfl⟩) hK hDD hA0 hP hS t2 9 (wkT ht2) rfl rfl hl.1 (Nat.le_of_ble_eq_true rfl) dX11_errands_28 (fun z7 A8 H locs hw9 hP hS => ?_)
    obtain ⟨rfl, hw9⟩ := hw9
    refine lv_iconst (v := iI 2) hx hb dX11_errands_31 (by decide +kernel) ?_
    refine lv_iconst (v := iI 0) hx hb dX11_errands_32 (by decide +kernel) ?_
    refine k_calli (As := [.ref (q t2), .int (iI x1), .int (iI z7), .int (iI 2), .int (iI 0)]) (rest := []) ⟨hx, hb, hml, hown, hts⟩ hE (kc_X0_search l dC dI cB cI cJ cZ cQ aL aS q _ t2 x1 z7 2 0 hI ht2 hx1 hw9 ⟨by decide, by decide⟩ ⟨by decide, by decide⟩) (cwV 5 hts (goodVk (wk_in_11 _ (List.mem_of_getElem? (i := 57) rfl)) (wk_in_0 _ (List.mem_of_getElem? (i := 12) rfl)) (wk_in_0 _ (List.mem_of_getElem? (i := 13) rfl)) (wk_in_0 _ (List.mem_of_getElem? (i := 14) rfl)) (wk_in_0 _ (List.mem_of_getElem? (i := 15) rfl))) rfl rfl rfl (by decide +kernel) ⟨Nat.le_of_ble_eq_true rfl, Nat.le_of_ble_eq_true rfl⟩) hK hDD hA0 hP hS 6 0 (wkAL) rfl rfl hl.1 (Nat.le_of_ble_eq_true rfl) dX11_errands_33 (fun z10 A11 H locs hw12 hP hS => ?_)
    obtain ⟨hI, hf13, hw12⟩ := hw12
    exact RET z10 _ _ _ _ _ ⟨hI, fk.trans (fk.rf) hf13 rfl rfl, hw12⟩ hP hS dX11_errands_36
  · have c6 : z3 = 0 := (i_eq0 (rb rz3 (by decide) (by decide))).mp c6
    clear hw5
    refine lv_iconst (v := iI (-1)) hx hb dX11_errands_12 (by decide +kernel) ?_
    exact RET (-1) _ _ _ _ _ ⟨hI, fk.rf, ⟨by decide, by decide⟩⟩ hP hS dX11_errands_13

def ws_kc_X11_lent : List Cond := .code yX11_lent cX11_lent 7 (some .int) :: WY
set_option maxHeartbeats 4000000 in
set_option maxRecDepth 100000 in
theorem kc_X11_lent (l : Launch) (dC : Nat → ClassId) (dI : Nat → Nat → Nat) (cB cI cJ cZ cQ : ClassId) (aL aS : Nat) (q : Nat → Nat) (A : St) (x1 x2 x3 : Int) (hI : IK A) (hx1 : (-2147483648 : Int) ≤ x1 ∧ x1 ≤ 2147483647) (hx2 : (-2147483648 : Int) ≤ x2 ∧ x2 ≤ 2147483647) (hx3 : (-2147483648 : Int) ≤ x3 ∧ x3 ≤ 2147483647) : KMi l yX11_lent ws_kc_X11_lent ({ frames := 7, cells := 0, slots := 0, locals := 182 } : Room) aL aS (dC, dI) (tyA cB cI cJ cZ cQ) (WK cB cI cJ cZ cQ q) A [.ref (q 0), .int (iI x1), .int (iI x2), .int (iI x3)] (fun z u => IK u ∧ fk [7, 9, 10, 11, 12, 13, 14, 15, 16, 17, 18, 19, 72, 103] [(6, 7), (6, 8), (6, 9), (6, 10), (6, 11), (6, 12), (6, 13), (6, 14), (6, 15), (6, 16)] A u ∧ (-2147483648 ≤ z ∧ z ≤ 2147483647)) := by
  refine k_meti (cc := cX11_lent) (maxL := 7) WK_adr (plainFor_of_name (by decide +kernel)) rfl (Nat.le_of_ble_eq_true rfl) (fun p e s m below meth c Q AS ls hx hb hml hown hts hK hDD hA0 hE RET H locs hP hS hl => ?_)
  have hown : s.vm.findClass RX11 = some m.cls := hown
  have hl : lv_has ls 7 [(0, .ref (q 0)), (1, .int (iI x1)), (2, .int (iI x2)), (3, .int (iI x3))] := hl
  have hiX11 : ∀ w ∈ u_ws RX11 TX11 11, w ∈ ws_kc_X11_lent := fun w h => List.mem_cons_of_mem _ (wy_layX11 w h)
  have hiX0 : ∀ w ∈ u_ws RX0 TX0 17, w ∈ ws_kc_X11_lent := fun w h => List.mem_cons_of_mem _ (wy_layX0 w h)
  refine lv_aload_n hx hb dX11_lent_0 rfl (lv_at hl 0 rfl) ?_
  have r1 : (0 : Int) ≤ (A 0 9) ∧ (A 0 9) ≤ 1 := irK_9 hI
  obtain ⟨t2, et2⟩ : ∃ t : Nat, t = 51 + 31 * ((A 0 9)).toNat := ⟨_, rfl⟩
  have ht2 : isT t2 := by rw [et2]; exact isT.b r1
  refine va_get (D := (dC, dI)) (ci := 11) (v := .ref (q (51 + 31 * (A 0 9).toNat))) (C := RX11) (T := TX11) (N := 11) hx hb hts hiX11 hown hK hP 0 (wkK) rfl 9 (by decide) (hts _ (List.mem_cons_of_mem _ (wk_in_10 _ (List.mem_of_getElem? (i := 36) rfl)))) (fun _ h9 => h9) rfl dX11_lent_1 ?_
  refine tp_v (y := .ref (q t2)) (by rw [et2]) ?_
  refine lv_iconst (v := iI 3) hx hb dX11_lent_4 (by decide +kernel) ?_
  refine lv_iload_n hx hb dX11_lent_5 rfl (lv_at hl 1 rfl) ?_
  refine k_calli (As := [.int (iI 3), .int (iI x1)]) (rest := []) ⟨hx, hb, hml, hown, hts⟩ hE (kc_X9_isThere_1_3 l dC dI cB cI cJ cZ cQ aL aS q _ t2 x1 hI ht2 hx1) (cwV 2 hts (goodVk (wk_in_10 _ (List.mem_of_getElem? (i := 54) rfl)) (wk_in_0 _ (List.mem_of_getElem? (i := 22) rfl)) (wk_in_0 _ (List.mem_of_getElem? (i := 23) rfl)) (wk_in_0 _ (List.mem_of_getElem? (i := 6) rfl)) (wk_in_0 _ (List.mem_of_getElem? (i := 24) rfl))) rfl rfl rfl (by decide +kernel) ⟨Nat.le_of_ble_eq_true rfl, Nat.le_of_ble_eq_true rfl⟩) hK hDD hA0 hP hS t2 9 (wkT ht2) rfl rfl hl.1 (Nat.le_of_ble_eq_true rfl) dX11_lent_6 (fun z3 A4 H locs hw5 hP hS => ?_)
  obtain ⟨rfl, hw5⟩ := hw5
  have rz3 : 0 ≤ z3 ∧ z3 ≤ 1 := hw5.1
  have hw5 := hw5.2
  refine lv_if_eq (tgt := 33) hx hb dX11_lent_9 (by decide) (fun c6 => ?_) (fun c6 => ?_)
  · have c6 : z3 = 0 := (i_eq0 (rb rz3 (by decide) (by decide))).mp c6
    clear hw5
    refine lv_iconst (v := iI (-1)) hx hb dX11_lent_33 (by decide +kernel) ?_
    exact RET (-1) _ _ _ _ _ ⟨hI, fk.rf, ⟨by decide, by decide⟩⟩ hP hS dX11_lent_34
  · have c6 : ¬ z3 = 0 := mt (i_eq0 (rb rz3 (by decide) (by decide))).mpr c6
    have hw5b := hw5 (by omega)
    clear hw5
    refine lv_aload_n hx hb dX11_lent_12 rfl (lv_at hl 0 rfl) ?_
    refine va_get (D := (dC, dI)) (ci := 11) (v := .ref (q (51 + 31 * (A 0 9).toNat))) (C := RX11) (T := TX11) (N := 11) hx hb hts hiX11 hown hK hP 0 (wkK) rfl 9 (by decide) (hts _ (List.mem_cons_of_mem _ (wk_in_10 _ (List.mem_of_getElem? (i := 36) rfl)))) (fun _ h9 => h9) rfl dX11_lent_13 ?_
    refine tp_v (y := .ref (q t2)) (by rw [et2]) ?_
    refine lv_iconst (v := iI 0) hx hb dX11_lent_16 (by decide +kernel) ?_
    refine lv_iload_n hx hb dX11_lent_17 rfl (lv_at hl 2 rfl) ?_
    refine k_calli (As := [.int (iI 0), .int (iI x2)]) (rest := []) ⟨hx, hb, hml, hown, hts⟩ hE (kc_X9_isThere_1_0 l dC dI cB cI cJ cZ cQ aL aS q _ t2 x2 hI ht2 hx2) (cwV 2 hts (goodVk (wk_in_10 _ (List.mem_of_getElem? (i := 54) rfl)) (wk_in_0 _ (List.mem_of_getElem? (i := 22) rfl)) (wk_in_0 _ (List.mem_of_getElem? (i := 23) rfl)) (wk_in_0 _ (List.mem_of_getElem? (i := 6) rfl)) (wk_in_0 _ (List.mem_of_getElem? (i := 24) rfl))) rfl rfl rfl (by decide +kernel) ⟨Nat.le_of_ble_eq_true rfl, Nat.le_of_ble_eq_true rfl⟩) hK hDD hA0 hP hS t2 9 (wkT ht2) rfl rfl hl.1 (Nat.le_of_ble_eq_true rfl) dX11_lent_18 (fun z7 A8 H locs hw9 hP hS => ?_)
    obtain ⟨rfl, hw9⟩ := hw9
    have rz7 : 0 ≤ z7 ∧ z7 ≤ 1 := hw9.1
    have hw9 := hw9.2
    refine lv_if_eq (tgt := 33) hx hb dX11_lent_21 (by decide) (fun c10 => ?_) (fun c10 => ?_)
    · have c10 : z7 = 0 := (i_eq0 (rb rz7 (by decide) (by decide))).mp c10
      clear hw9
      refine lv_iconst (v := iI (-1)) hx hb dX11_lent_33 (by decide +kernel) ?_
      exact RET (-1) _ _ _ _ _ ⟨hI, fk.rf, ⟨by decide, by decide⟩⟩ hP hS dX11_lent_34
    · have c10 : ¬ z7 = 0 := mt (i_eq0 (rb rz7 (by decide) (by decide))).mpr c10
      have hw9b := hw9 (by omega)
      clear hw9
      refine lv_iload_n hx hb dX11_lent_24 rfl (lv_at hl 3 rfl) ?_
      refine lv_if_lt (tgt := 33) hx hb dX11_lent_25 (by decide) (fun c11 => ?_) (fun c11 => ?_)
      · have c11 : x3 < 0 := (i_lt0 hx3).mp c11
        refine lv_iconst (v := iI (-1)) hx hb dX11_lent_33 (by decide +kernel) ?_
        exact RET (-1) _ _ _ _ _ ⟨hI, fk.rf, ⟨by decide, by decide⟩⟩ hP hS dX11_lent_34
      · have c11 : ¬ x3 < 0 := mt (i_lt0 hx3).mpr c11
        refine lv_iload_n hx hb dX11_lent_28 rfl (lv_at hl 3 rfl) ?_
        refine lv_iconst (v := iI 2) hx hb dX11_lent_29 (by decide +kernel) ?_
        refine lv_icmp_le (tgt := 35) hx hb dX11_lent_30 (by decide) (fun c12 => ?_) (fun c12 => ?_)
        · have c12 : x3 ≤ 2 := (i_le hx3 ⟨by decide, by decide⟩).mp c12
          refine lv_aload_n hx hb dX11_lent_35 rfl (lv_at hl 0 rfl) ?_
          refine va_get (D := (dC, dI)) (ci := 11) (v := .ref (q 6)) (C := RX11) (T := TX11) (N := 11) hx hb hts hiX11 hown hK hP 0 (wkK) rfl 2 (by decide) (hts _ (List.mem_cons_of_mem _ (wk_in_11 _ (List.mem_of_getElem? (i := 13) rfl)))) (fun _ h9 => h9) rfl dX11_lent_36 ?_
          refine lv_aload_n hx hb dX11_lent_39 rfl (lv_at hl 0 rfl) ?_
          refine va_get (D := (dC, dI)) (ci := 11) (v := .ref (q (51 + 31 * (A 0 9).toNat))) (C := RX11) (T := TX11) (N := 11) hx hb hts hiX11 hown hK hP 0 (wkK) rfl 9 (by decide) (hts _ (List.mem_cons_of_mem _ (wk_in_10 _ (List.mem_of_getElem? (i := 36) rfl)))) (fun _ h9 => h9) rfl dX11_lent_40 ?_
          refine tp_v (y := .ref (q t2)) (by rw [et2]) ?_
          refine lv_iload_n hx hb dX11_lent_43 rfl (lv_at hl 1 rfl) ?_
          refine lv_iload_n hx hb dX11_lent_44 rfl (lv_at hl 2 rfl) ?_
          refine k_calli (As := [.ref (q t2), .int (iI x1), .int (iI x2)]) (rest := []) ⟨hx, hb, hml, hown, hts⟩ hE (kc_X0_bestLent l dC dI cB cI cJ cZ cQ aL aS q _ t2 x1 x2 hI ht2 hx1 hx2) (cwV 3 hts (goodVk (wk_in_12 _ (List.mem_of_getElem? (i := 2) rfl)) (wk_in_12 _ (List.mem_of_getElem? (i := 3) rfl)) (wk_in_12 _ (List.mem_of_getElem? (i := 4) rfl)) (wk_in_0 _ (List.mem_of_getElem? (i := 14) rfl)) (wk_in_2 _ (List.mem_of_getElem? (i := 58) rfl))) rfl rfl rfl (by decide +kernel) ⟨Nat.le_of_ble_eq_true rfl, Nat.le_of_ble_eq_true rfl⟩) hK hDD hA0 hP hS 6 0 (wkAL) rfl rfl hl.1 (Nat.le_of_ble_eq_true rfl) dX11_lent_45 (fun z13 A14 H locs hw15 hP hS => ?_)
          obtain ⟨hI, hf16, hw15⟩ := hw15
          refine lv_istore (lv' := [(4, .int (iI z13)), (0, .ref (q 0)), (1, .int (iI x1)), (2, .int (iI x2)), (3, .int (iI x3))]) hx hb dX11_lent_48 hl (by decide) rfl (fun ls hl => ?_)
          refine lv_iload hx hb dX11_lent_50 (lv_at hl 0 rfl) ?_
          refine lv_iconst (v := iI (-1)) hx hb dX11_lent_52 (by decide +kernel) ?_
          refine lv_icmp_eq (tgt := 60) hx hb dX11_lent_53 (by decide) (fun c17 => ?_) (fun c17 => ?_)
          · have c17 : z13 = (-1) := (i_eq hw15 ⟨by decide, by decide⟩).mp c17
            refine lv_iload hx hb dX11_lent_60 (lv_at hl 0 rfl) ?_
            exact RET z13 _ _ _ _ _ ⟨hI, fk.trans (fk.rf) hf16 rfl rfl, hw15⟩ hP hS dX11_lent_62
          · have c17 : ¬ z13 = (-1) := mt (i_eq hw15 ⟨by decide, by decide⟩).mpr c17
            refine lv_iload_n hx hb dX11_lent_56 rfl (lv_at hl 4 rfl) ?_
            refine lv_if_ne (tgt := 63) hx hb dX11_lent_57 (by decide) (fun c18 => ?_) (fun c18 => ?_)
            · have c18 : ¬ x3 = 0 := mt (i_eq0 hx3).mpr c18
              refine lv_aload_n hx hb dX11_lent_63 rfl (lv_at hl 1 rfl) ?_
              refine va_get (D := (dC, dI)) (ci := 11) (v := .ref (q 6)) (C := RX11) (T := TX11) (N := 11) hx hb hts hiX11 hown hK hP 0 (wkK) rfl 2 (by decide) (hts _ (List.mem_cons_of_mem _ (wk_in_11 _ (List.mem_of_getElem? (i := 13) rfl)))) (fun _ h9 => h9) rfl dX11_lent_64 ?_
              have r19 : (-2147483648 : Int) ≤ (A14 6 16) ∧ (A14 6 16) ≤ 2147483647 := irAL_16 hI
              refine va_get (D := (dC, dI)) (ci := 0) (v := .int (iI (A14 6 16))) (C := RX0) (T := TX0) (N := 17) hx hb hts hiX0 hown hK hP 6 (wkAL) rfl 16 (by decide) (hts _ (List.mem_cons_of_mem _ (wk_in_12 _ (List.mem_of_getElem? (i := 1) rfl)))) (fun _ h9 => h9) rfl dX11_lent_67 ?_
              refine lv_istore (lv' := [(5, .int (iI (A14 6 16))), (4, .int (iI z13)), (0, .ref (q 0)), (1, .int (iI x1)), (2, .int (iI x2)), (3, .int (iI x3))]) hx hb dX11_lent_70 hl (by decide) rfl (fun ls hl => ?_)
              refine lv_iload_n hx hb dX11_lent_72 rfl (lv_at hl 5 rfl) ?_
              refine lv_iconst (v := iI 1) hx hb dX11_lent_73 (by decide +kernel) ?_
              refine lv_icmp_ne (tgt := 80) hx hb dX11_lent_74 (by decide) (fun c20 => ?_) (fun c20 => ?_)
              · have c20 : ¬ x3 = 1 := mt (i_eq hx3 ⟨by decide, by decide⟩).mpr c20
                refine lv_aload_n hx hb dX11_lent_80 rfl (lv_at hl 2 rfl) ?_
                refine va_get (D := (dC, dI)) (ci := 11) (v := .ref (q 6)) (C := RX11) (T := TX11) (N := 11) hx hb hts hiX11 hown hK hP 0 (wkK) rfl 2 (by decide) (hts _ (List.mem_cons_of_mem _ (wk_in_11 _ (List.mem_of_getElem? (i := 13) rfl)))) (fun _ h9 => h9) rfl dX11_lent_81 ?_
                refine lv_aload_n hx hb dX11_lent_84 rfl (lv_at hl 2 rfl) ?_
                have e21 : A14 0 9 = (A 0 9) := (hf16 0 9 rfl rfl)
                refine va_get (D := (dC, dI)) (ci := 11) (v := .ref (q (51 + 31 * (A14 0 9).toNat))) (C := RX11) (T := TX11) (N := 11) hx hb hts hiX11 hown hK hP 0 (wkK) rfl 9 (by decide) (hts _ (List.mem_cons_of_mem _ (wk_in_10 _ (List.mem_of_getElem? (i := 36) rfl)))) (fun _ h9 => h9) rfl dX11_lent_85 ?_
                refine tp_v (y := .ref (q t2)) (by rw [et2, e21]) ?_
                refine lv_iload_n hx hb dX11_lent_88 rfl (lv_at hl 3 rfl) ?_
                refine lv_aload_n hx hb dX11_lent_89 rfl (lv_at hl 2 rfl) ?_
                refine va_get (D := (dC, dI)) (ci := 11) (v := .ref (q (51 + 31 * (A14 0 9).toNat))) (C := RX11) (T := TX11) (N := 11) hx hb hts hiX11 hown hK hP 0 (wkK) rfl 9 (by decide) (hts _ (List.mem_cons_of_mem _ (wk_in_10 _ (List.mem_of_getElem? (i := 36) rfl)))) (fun _ h9 => h9) rfl dX11_lent_90 ?_
                refine tp_v (y := .ref (q t2)) (by rw [et2, e21]) ?_
                refine lv_iload_n hx hb dX11_lent_93 rfl (lv_at hl 3 rfl) ?_
                refine k_calli (As := [.int (iI x1)]) (rest := [.int (iI x1), .ref (q t2), .ref (q 6)]) ⟨hx, hb, hml, hown, hts⟩ hE (kc_X9_keysOf l dC dI cB cI cJ cZ cQ aL aS q _ t2 x1 hI ht2 hx1) (cwV 1 hts (goodVk (wk_in_11 _ (List.mem_of_getElem? (i := 14) rfl)) (wk_in_0 _ (List.mem_of_getElem? (i := 4) rfl)) (wk_in_0 _ (List.mem_of_getElem? (i := 5) rfl)) (wk_in_0 _ (List.mem_of_getElem? (i := 6) rfl)) (wk_in_0 _ (List.mem_of_getElem? (i := 7) rfl))) rfl rfl rfl (by decide +kernel) ⟨Nat.le_of_ble_eq_true rfl, Nat.le_of_ble_eq_true rfl⟩) hK hDD hA0 hP hS t2 9 (wkT ht2) rfl rfl hl.1 (Nat.le_of_ble_eq_true rfl) dX11_lent_94 (fun z22 A23 H locs hw24 hP hS => ?_)
                obtain ⟨rfl, hw24⟩ := hw24
                refine lv_iconst (v := iI 0) hx hb dX11_lent_97 (by decide +kernel) ?_
                refine lv_iload_n hx hb dX11_lent_98 rfl (lv_at hl 4 rfl) ?_
                refine k_calli (As := [.ref (q t2), .int (iI x1), .int (iI z22), .int (iI 0), .int (iI x2)]) (rest := []) ⟨hx, hb, hml, hown, hts⟩ hE (kc_X0_search l dC dI cB cI cJ cZ cQ aL aS q _ t2 x1 z22 0 x2 hI ht2 hx1 hw24 ⟨by decide, by decide⟩ hx2) (cwV 5 hts (goodVk (wk_in_11 _ (List.mem_of_getElem? (i := 57) rfl)) (wk_in_0 _ (List.mem_of_getElem? (i := 12) rfl)) (wk_in_0 _ (List.mem_of_getElem? (i := 13) rfl)) (wk_in_0 _ (List.mem_of_getElem? (i := 14) rfl)) (wk_in_0 _ (List.mem_of_getElem? (i := 15) rfl))) rfl rfl rfl (by decide +kernel) ⟨Nat.le_of_ble_eq_true rfl, Nat.le_of_ble_eq_true rfl⟩) hK hDD hA0 hP hS 6 0 (wkAL) rfl rfl hl.1 (Nat.le_of_ble_eq_true rfl) dX11_lent_99 (fun z25 A26 H locs hw27 hP hS => ?_)
                obtain ⟨hI, hf28, hw27⟩ := hw27
                refine lv_istore (lv' := [(6, .int (iI z25)), (5, .int (iI (A14 6 16))), (4, .int (iI z13)), (0, .ref (q 0)), (1, .int (iI x1)), (2, .int (iI x2)), (3, .int (iI x3))]) hx hb dX11_lent_102 hl (by decide) rfl (fun ls hl => ?_)
                refine lv_iload hx hb dX11_lent_104 (lv_at hl 0 rfl) ?_
                refine lv_iconst (v := iI (-1)) hx hb dX11_lent_106 (by decide +kernel) ?_
                refine lv_icmp_ne (tgt := 114) hx hb dX11_lent_107 (by decide) (fun c29 => ?_) (fun c29 => ?_)
                · have c29 : ¬ z25 = (-1) := mt (i_eq hw27 ⟨by decide, by decide⟩).mpr c29
                  refine lv_iload hx hb dX11_lent_114 (lv_at hl 0 rfl) ?_
                  refine lv_iload hx hb dX11_lent_116 (lv_at hl 1 rfl) ?_
                  refine x_subv (v := z25 - (A14 6 16)) hx hb dX11_lent_118 (by omega) ?_
                  refine x_abs (fun z30 hz30 => ?_)
                  exact RET z30 _ _ _ _ _ ⟨hI, fk.trans (fk.trans (fk.rf) hf16 rfl rfl) hf28 rfl rfl, hz30⟩ hP hS dX11_lent_119
                · have c29 : z25 = (-1) := (i_eq hw27 ⟨by decide, by decide⟩).mp c29
                  refine lv_iconst (v := iI (-1)) hx hb dX11_lent_110 (by decide +kernel) ?_
                  refine lv_goto (tgt := 119) hx hb dX11_lent_111 (by decide) ?_
                  exact RET (-1) _ _ _ _ _ ⟨hI, fk.trans (fk.trans (fk.rf) hf16 rfl rfl) hf28 rfl rfl, ⟨by decide, by decide⟩⟩ hP hS dX11_lent_119
              · have c20 : x3 = 1 := (i_eq hx3 ⟨by decide, by decide⟩).mp c20
                refine lv_iload hx hb dX11_lent_77 (lv_at hl 0 rfl) ?_
                exact RET (A14 6 16) _ _ _ _ _ ⟨hI, fk.trans (fk.rf) hf16 rfl rfl, r19⟩ hP hS dX11_lent_79
            · have c18 : x3 = 0 := (i_eq0 hx3).mp c18
              refine lv_iload hx hb dX11_lent_60 (lv_at hl 0 rfl) ?_
              exact RET z13 _ _ _ _ _ ⟨hI, fk.trans (fk.rf) hf16 rfl rfl, hw15⟩ hP hS dX11_lent_62
        · have c12 : ¬ x3 ≤ 2 := mt (i_le hx3 ⟨by decide, by decide⟩).mpr c12
          refine lv_iconst (v := iI (-1)) hx hb dX11_lent_33 (by decide +kernel) ?_
          exact RET (-1) _ _ _ _ _ ⟨hI, fk.rf, ⟨by decide, by decide⟩⟩ hP hS dX11_lent_34
