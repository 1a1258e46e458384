def ws_mb_X12_placesOf : List Cond := .code yX12_placesOf cX12_placesOf 4 (some .int) :: WX
set_option maxHeartbeats 4000000 in
set_option maxRecDepth 100000 in
theorem mb_X12_placesOf (l : Launch) (dC : Nat → ClassId) (dI : Nat → Nat → Nat) (cB cI cJ cZ cQ : ClassId) (q : Nat → Nat) (A : St) (x1 : Int) (hI : IM A) (hx1 : (0 : Int) ≤ x1 ∧ x1 ≤ 2) (hcCI : CI A) (hcWI : WI A) : XMi l yX12_placesOf ws_mb_X12_placesOf ({ frames := 6, cells := 0, slots := 0, locals := 148 } : Room) (dC, dI) (tyA cB cI cJ cZ cQ) (WM cI cJ cZ q) A [.ref (q 0), .int (iI x1)] (fun z u => IM u ∧ fr [42, 43, 47, 48, 49, 50] [66, 67, 69, 70, 71, 73] A u ∧ CI u ∧ WI u ∧ (-2147483648 ≤ z ∧ z ≤ 2147483647)) := by
  refine x_meti (cc := cX12_placesOf) (maxL := 4) WM_adr (by decide +kernel) rfl (Nat.le_of_ble_eq_true rfl) (fun p e s m below meth c Q AS ls hx hb hml hown hts hK hDD hA0 hP hS hl RET => ?_)
  have hown : s.vm.findClass RX12 = some m.cls := hown
  have hl : lv_has ls 4 [(0, .ref (q 0)), (1, .int (iI x1))] := hl
  have hiX12 : ∀ w ∈ u_ws RX12 TX12 85, w ∈ ws_mb_X12_placesOf := fun w h => List.mem_cons_of_mem _ (wx_lay w h)
  obtain ⟨H, hHe⟩ : ∃ H : Heap, H = s.heap := ⟨_, rfl⟩
  rw [← hHe] at hP
  have hS : va_S AS s.heap H [] := by rw [hHe]; exact hS
  suffices hgo : ∀ locs : List Loc, va_S AS s.heap H locs → W p l e (headSpec ws_mb_X12_placesOf ({ frames := 6, cells := 0, slots := 0, locals := 148 } : Room)).room s m [.ref (q 0), .int (iI x1)].toArray below meth c H locs 0 0 Q (F0 m 0 ls []) by
    have := hgo [] hS
    rw [hHe] at this
    exact this
  clear hS hHe
  intro locs hS
  refine lv_aload_n hx hb dX12_placesOf_0 rfl (lv_at hl 0 rfl) ?_
  refine lv_iload_n hx hb dX12_placesOf_1 rfl (lv_at hl 1 rfl) ?_
  refine lv_aload_n hx hb dX12_placesOf_2 rfl (lv_at hl 0 rfl) ?_
  refine lv_iload_n hx hb dX12_placesOf_3 rfl (lv_at hl 1 rfl) ?_
  refine x_calli (As := [.int (iI x1)]) (rest := [.int (iI x1), .ref (q 0)]) ⟨hx, hb, hml, hown, hts⟩ (mc_X12_keysOf l dC dI cB cI cJ cZ cQ q _ x1 hI (rb hx1 (by decide) (by decide))) (cwV 1 hts (goodV (wl_in_5 _ (List.mem_of_getElem? (i := 41) rfl)) (wl_in_5 _ (List.mem_of_getElem? (i := 42) rfl)) (wl_in_5 _ (List.mem_of_getElem? (i := 43) rfl)) (wl_in_0 _ (List.mem_of_getElem? (i := 8) rfl)) (wl_in_5 _ (List.mem_of_getElem? (i := 26) rfl))) rfl rfl rfl (by decide +kernel) ⟨Nat.le_of_ble_eq_true rfl, Nat.le_of_ble_eq_true rfl⟩) hK hDD hA0 hP hS 0 12 wm0 rfl rfl hl.1 (Nat.le_of_ble_eq_true rfl) dX12_placesOf_4 (fun z1 A2 H locs hw3 hP hS => ?_)
  obtain ⟨rfl, hw3⟩ := hw3
  refine lv_iconst (v := iI 0) hx hb dX12_placesOf_7 (by decide +kernel) ?_
  refine x_callv (As := [.int (iI x1), .int (iI z1), .int (iI 0)]) (rest := []) ⟨hx, hb, hml, hown, hts⟩ (mb_X12_searches l dC dI cB cI cJ cZ cQ q _ x1 z1 0 hI hx1 hw3 ⟨by decide, by decide⟩ hcCI hcWI) (cwV 3 hts (goodV (wl_in_7 _ (List.mem_of_getElem? (i := 19) rfl)) (wl_in_7 _ (List.mem_of_getElem? (i := 20) rfl)) (wl_in_7 _ (List.mem_of_getElem? (i := 21) rfl)) (wl_in_0 _ (List.mem_of_getElem? (i := 8) rfl)) (wl_in_7 _ (List.mem_of_getElem? (i := 0) rfl))) rfl rfl rfl (by decide +kernel) ⟨Nat.le_of_ble_eq_true rfl, Nat.le_of_ble_eq_true rfl⟩) hK hDD hA0 hP hS 0 12 wm0 rfl rfl hl.1 (Nat.le_of_ble_eq_true rfl) dX12_placesOf_8 (fun A4 H locs hw5 hP hS => ?_)
  obtain ⟨hI, hf6, hw5⟩ := hw5
  obtain ⟨hc7, hw5⟩ := hw5
  obtain ⟨hc8, hw5⟩ := hw5
  refine lv_iconst (v := iI 0) hx hb dX12_placesOf_11 (by decide +kernel) ?_
  refine lv_istore_n (lv' := [(2, .int (iI 0)), (0, .ref (q 0)), (1, .int (iI x1))]) hx hb dX12_placesOf_12 rfl hl (by decide) rfl (fun ls hl => ?_)
  refine lv_iconst (v := iI 0) hx hb dX12_placesOf_13 (by decide +kernel) ?_
  refine lv_istore_n (lv' := [(3, .int (iI 0)), (2, .int (iI 0)), (0, .ref (q 0)), (1, .int (iI x1))]) hx hb dX12_placesOf_14 rfl hl (by decide) rfl (fun ls hl => ?_)
  have L15_13 : ∀ (n15 : Nat) (z9 z10 : Int) (A12 : St) (H : Heap) (locs : List Loc) (ls : Array Slot), (0 ≤ z9) → (0 ≤ z9 ∧ z9 ≤ 2147483647) → (-2147483648 ≤ z10 ∧ z10 ≤ 2147483647) → (((A4 0 66) - z9 + 1).toNat = n15) → IM A12 → fr [49] [67, 69] A4 A12 → va_P (dC, dI) vwCl (WM cI cJ cZ q A12) H → va_S AS s.heap H locs → lv_has ls 4 [(3, .int (iI z9)), (2, .int (iI z10)), (0, .ref (q 0)), (1, .int (iI x1))] → W p l e (headSpec ws_mb_X12_placesOf ({ frames := 6, cells := 0, slots := 0, locals := 148 } : Room)).room s m [.ref (q 0), .int (iI x1)].toArray below meth c H locs 0 0 Q (F0 m 15 ls []) := by
    intro n15
    induction n15 using Nat.strongRecOn with
    | ind n15 ih14 =>
      intro z9 z10 A12 H locs ls f16 f17 f18 hn15 hI hj11 hP hS hl
      refine lv_iload_n hx hb dX12_placesOf_15 rfl (lv_at hl 0 rfl) ?_
      refine lv_aload_n hx hb dX12_placesOf_16 rfl (lv_at hl 2 rfl) ?_
      have e_A12_66 : A12 0 66 = (A4 0 66) := (hj11.2 66 rfl)
      refine va_get (D := (dC, dI)) (ci := 12) (v := .int (iI (A12 0 66))) (C := RX12) (T := TX12) (N := 85) hx hb hts hiX12 hown hK hP 0 wm0 rfl 66 (by decide) (hts _ (List.mem_cons_of_mem _ (wl_in_6 _ (List.mem_of_getElem? (i := 53) rfl)))) (fun _ h9 => h9) rfl dX12_placesOf_17 ?_
      refine tp_i (y := iI (A4 0 66)) (congrArg iI e_A12_66) ?_
      have r_A4_0_66 : (0 : Int) ≤ (A4 0 66) ∧ (A4 0 66) ≤ 76832 := by rw [← e_A12_66]; exact hI 0 66
      refine lv_icmp_ge (tgt := 48) hx hb dX12_placesOf_20 (by decide) (fun c19 => ?_) (fun c19 => ?_)
      · have c19 : (A4 0 66) ≤ z9 := (i_le (rb r_A4_0_66 (by decide) (by decide)) (rb f17 (by decide) (by decide))).mp c19
        refine lv_iload_n hx hb dX12_placesOf_48 rfl (lv_at hl 1 rfl) ?_
        exact RET z10 _ _ _ _ _ ⟨hI, fr.trans (fr.trans (fr.rf) hf6 rfl rfl) hj11 rfl rfl, (CI.fr hc7 hj11 rfl rfl), (WI.fr hc8 hj11 rfl rfl), by omega⟩ hP hS dX12_placesOf_49
      · have c19 : ¬ (A4 0 66) ≤ z9 := mt (i_le (rb r_A4_0_66 (by decide) (by decide)) (rb f17 (by decide) (by decide))).mpr c19
        refine lv_aload_n hx hb dX12_placesOf_23 rfl (lv_at hl 2 rfl) ?_
        refine lv_aload_n hx hb dX12_placesOf_24 rfl (lv_at hl 2 rfl) ?_
        refine va_get (D := (dC, dI)) (ci := 12) (v := .ref (q 48)) (C := RX12) (T := TX12) (N := 85) hx hb hts hiX12 hown hK hP 0 wm0 rfl 65 (by decide) (hts _ (List.mem_cons_of_mem _ (wl_in_6 _ (List.mem_of_getElem? (i := 52) rfl)))) (fun _ h9 => h9) rfl dX12_placesOf_25 ?_
        refine lv_iload_n hx hb dX12_placesOf_28 rfl (lv_at hl 0 rfl) ?_
        have a_A12_48 : A12 48 = A4 48 := (hj11.1 48 (by decide) rfl)
        refine x_iald hx hb hK hP 48 1 wm48 rfl (by omega) (by decide) dX12_placesOf_29 (fun z20 hz20 => ?_)
        have rz20 : (0 : Int) ≤ z20 ∧ z20 ≤ 76831 := by rw [hz20]; exact hI 48 _
        have hz20 : z20 = A4 48 (z9).toNat := hz20.trans (congrFun a_A12_48 _)
        refine x_callv (As := [.int (iI z20)]) (rest := []) ⟨hx, hb, hml, hown, hts⟩ (mc_X12_takes l dC dI cB cI cJ cZ cQ q _ z20 hI rz20) (cwV 1 hts (goodV (wl_in_7 _ (List.mem_of_getElem? (i := 11) rfl)) (wl_in_7 _ (List.mem_of_getElem? (i := 12) rfl)) (wl_in_7 _ (List.mem_of_getElem? (i := 13) rfl)) (wl_in_0 _ (List.mem_of_getElem? (i := 8) rfl)) (wl_in_6 _ (List.mem_of_getElem? (i := 41) rfl))) rfl rfl rfl (by decide +kernel) ⟨Nat.le_of_ble_eq_true rfl, Nat.le_of_ble_eq_true rfl⟩) hK hDD hA0 hP hS 0 12 wm0 rfl rfl hl.1 (Nat.le_of_ble_eq_true rfl) dX12_placesOf_30 (fun A21 H locs hw22 hP hS => ?_)
        obtain ⟨hI, hf23, hw22⟩ := hw22
        clear hw22
        refine lv_iload_n hx hb dX12_placesOf_33 rfl (lv_at hl 1 rfl) ?_
        refine lv_iconst (v := iI 1) hx hb dX12_placesOf_34 (by decide +kernel) ?_
        refine lv_aload_n hx hb dX12_placesOf_35 rfl (lv_at hl 2 rfl) ?_
        refine va_get (D := (dC, dI)) (ci := 12) (v := .int (iI (A21 0 67))) (C := RX12) (T := TX12) (N := 85) hx hb hts hiX12 hown hK hP 0 wm0 rfl 67 (by decide) (hts _ (List.mem_cons_of_mem _ (wl_in_6 _ (List.mem_of_getElem? (i := 38) rfl)))) (fun _ h9 => h9) rfl dX12_placesOf_36 ?_
        have r_A21_0_67 : (0 : Int) ≤ (A21 0 67) ∧ (A21 0 67) ≤ 7 := hI 0 67
        refine x_shl1 (M := 7) (t := 128) hx hb dX12_placesOf_39 (by omega) (by decide) (by decide) (fun z24 hz24 => ?_)
        refine lv_ior hx hb dX12_placesOf_40 ?_
        refine x_abs (fun z25 hz25 => ?_)
        refine lv_istore_n (lv' := [(2, .int (iI z25)), (3, .int (iI z9)), (0, .ref (q 0)), (1, .int (iI x1))]) hx hb dX12_placesOf_41 rfl hl (by decide) rfl (fun ls hl => ?_)
        refine lv_iinc (v := iI (z9 + 1)) (lv' := [(3, .int (iI (z9 + 1))), (2, .int (iI z25)), (0, .ref (q 0)), (1, .int (iI x1))]) hx hb dX12_placesOf_42 hl (k := 1) rfl (i_inc (by omega)) (by decide) rfl (fun ls hl => ?_)
        refine lv_goto (tgt := 15) hx hb dX12_placesOf_45 (by decide) ?_
        exact ih14 _ (by omega) (z9 + 1) z25 _ _ _ _ (by omega) (by omega) (by omega) rfl hI (fr.trans (fr.trans (fr.rf) hj11 rfl rfl) hf23 rfl rfl) hP hS (lv_sub hl [0, 1, 2, 3] rfl)
  exact L15_13 _ 0 0 _ _ _ _ (by omega) (by omega) (by omega) rfl hI (fr.rf) hP hS (lv_sub hl [0, 1, 2, 3] rfl)

def ws_mb_X12_person_ : List Cond := .code yX12_person_ cX12_person_ 3 (some .int) :: WX
set_option maxHeartbeats 4000000 in
set_option maxRecDepth 100000 in
theorem mb_X12_person_ (l : Launch) (dC : Nat → ClassId) (dI : Nat → Nat → Nat) (cB cI cJ cZ cQ : ClassId) (q : Nat → Nat) (A : St) (x1 x2 : Int) (hI : IM A) (hx1 : (-2147483648 : Int) ≤ x1 ∧ x1 ≤ 2147483647) (hx2 : (-2147483648 : Int) ≤ x2 ∧ x2 ≤ 2147483647) (hcCI : CI A) (hcWI : WI A) : XMi l yX12_person_ ws_mb_X12_person_ ({ frames := 7, cells := 0, slots := 0, locals := 171 } : Room) (dC, dI) (tyA cB cI cJ cZ cQ) (WM cI cJ cZ q) A [.ref (q 0), .int (iI x1), .int (iI x2)] (fun z u => IM u ∧ fr [42, 43, 47, 48, 49, 50] [66, 67, 69, 70, 71, 73] A u ∧ CI u ∧ WI u ∧ (-2147483648 ≤ z ∧ z ≤ 2147483647)) := by
  refine x_meti (cc := cX12_person_) (maxL := 3) WM_adr (by decide +kernel) rfl (Nat.le_of_ble_eq_true rfl) (fun p e s m below meth c Q AS ls hx hb hml hown hts hK hDD hA0 hP hS hl RET => ?_)
  have hown : s.vm.findClass RX12 = some m.cls := hown
  have hl : lv_has ls 3 [(0, .ref (q 0)), (1, .int (iI x1)), (2, .int (iI x2))] := hl
  obtain ⟨H, hHe⟩ : ∃ H : Heap, H = s.heap := ⟨_, rfl⟩
  rw [← hHe] at hP
  have hS : va_S AS s.heap H [] := by rw [hHe]; exact hS
  suffices hgo : ∀ locs : List Loc, va_S AS s.heap H locs → W p l e (headSpec ws_mb_X12_person_ ({ frames := 7, cells := 0, slots := 0, locals := 171 } : Room)).room s m [.ref (q 0), .int (iI x1), .int (iI x2)].toArray below meth c H locs 0 0 Q (F0 m 0 ls []) by
    have := hgo [] hS
    rw [hHe] at this
    exact this
  clear hS hHe
  intro locs hS
  refine lv_aload_n hx hb dX12_person__0 rfl (lv_at hl 0 rfl) ?_
  refine lv_iload_n hx hb dX12_person__1 rfl (lv_at hl 1 rfl) ?_
  have r_A_0_12 : (0 : Int) ≤ (A 0 12) ∧ (A 0 12) ≤ 1 := hI 0 12
  refine x_calli (As := [.int (iI x1)]) (rest := []) ⟨hx, hb, hml, hown, hts⟩ (mc_X12_isPersonB l dC dI cB cI cJ cZ cQ q _ x1 hI hx1) (cwV 1 hts (goodV (wl_in_5 _ (List.mem_of_getElem? (i := 55) rfl)) (wl_in_5 _ (List.mem_of_getElem? (i := 56) rfl)) (wl_in_5 _ (List.mem_of_getElem? (i := 57) rfl)) (wl_in_0 _ (List.mem_of_getElem? (i := 8) rfl)) (wl_in_4 _ (List.mem_of_getElem? (i := 40) rfl))) rfl rfl rfl (by decide +kernel) ⟨Nat.le_of_ble_eq_true rfl, Nat.le_of_ble_eq_true rfl⟩) hK hDD hA0 hP hS 0 12 wm0 rfl rfl hl.1 (Nat.le_of_ble_eq_true rfl) dX12_person__2 (fun z1 A2 H locs hw3 hP hS => ?_)
  obtain ⟨rfl, hw3⟩ := hw3
  have rz1 : 0 ≤ z1 ∧ z1 ≤ 1 := hw3.1
  refine lv_if_ne (tgt := 10) hx hb dX12_person__5 (by decide) (fun c4 => ?_) (fun c4 => ?_)
  · have c4 : ¬ z1 = 0 := mt (i_eq0 (rb rz1 (by decide) (by decide))).mpr c4
    have hw3b := hw3.2.mp (by omega)
    clear hw3
    refine lv_iload_n hx hb dX12_person__10 rfl (lv_at hl 2 rfl) ?_
    rcases (show (x2 < 0 ∨ 3 < x2) ∨ x2 = 0 ∨ x2 = 1 ∨ x2 = 2 ∨ x2 = 3 by omega) with c5 | c5 | c5 | c5 | c5
    · refine lv_tableOut (tgt := 67) hx hb dX12_person__11 (by rw [iI_toInt hx2]; exact c5) (by decide) ?_
      refine lv_iconst (v := iI (-1)) hx hb dX12_person__67 (by decide +kernel) ?_
      exact RET (-1) _ _ _ _ _ ⟨hI, fr.rf, hcCI, hcWI, by omega⟩ hP hS dX12_person__68
    · refine tp_i (y := iI 0) (congrArg iI c5) ?_
      refine lv_tableIn (off := 29) (tgt := 40) hx hb dX12_person__11 (by decide +kernel) (by decide +kernel) (by decide +kernel) (by decide) ?_
      refine lv_aload_n hx hb dX12_person__40 rfl (lv_at hl 0 rfl) ?_
      refine lv_iload_n hx hb dX12_person__41 rfl (lv_at hl 1 rfl) ?_
      refine x_calli (As := [.int (iI x1)]) (rest := []) ⟨hx, hb, hml, hown, hts⟩ (mc_X12_placeOf l dC dI cB cI cJ cZ cQ q _ x1 hI (by omega)) (cwV 1 hts (goodV (wl_in_5 _ (List.mem_of_getElem? (i := 35) rfl)) (wl_in_5 _ (List.mem_of_getElem? (i := 36) rfl)) (wl_in_5 _ (List.mem_of_getElem? (i := 37) rfl)) (wl_in_0 _ (List.mem_of_getElem? (i := 8) rfl)) (wl_in_5 _ (List.mem_of_getElem? (i := 25) rfl))) rfl rfl rfl (by decide +kernel) ⟨Nat.le_of_ble_eq_true rfl, Nat.le_of_ble_eq_true rfl⟩) hK hDD hA0 hP hS 0 12 wm0 rfl rfl hl.1 (Nat.le_of_ble_eq_true rfl) dX12_person__42 (fun z6 A7 H locs hw8 hP hS => ?_)
      obtain ⟨rfl, hw8⟩ := hw8
      exact RET z6 _ _ _ _ _ ⟨hI, fr.rf, hcCI, hcWI, by omega⟩ hP hS dX12_person__45
    · refine tp_i (y := iI 1) (congrArg iI c5) ?_
      refine lv_tableIn (off := 35) (tgt := 46) hx hb dX12_person__11 (by decide +kernel) (by decide +kernel) (by decide +kernel) (by decide) ?_
      refine lv_aload_n hx hb dX12_person__46 rfl (lv_at hl 0 rfl) ?_
      refine lv_iload_n hx hb dX12_person__47 rfl (lv_at hl 1 rfl) ?_
      refine x_calli (As := [.int (iI x1)]) (rest := []) ⟨hx, hb, hml, hown, hts⟩ (mc_X12_keysOf l dC dI cB cI cJ cZ cQ q _ x1 hI hx1) (cwV 1 hts (goodV (wl_in_5 _ (List.mem_of_getElem? (i := 41) rfl)) (wl_in_5 _ (List.mem_of_getElem? (i := 42) rfl)) (wl_in_5 _ (List.mem_of_getElem? (i := 43) rfl)) (wl_in_0 _ (List.mem_of_getElem? (i := 8) rfl)) (wl_in_5 _ (List.mem_of_getElem? (i := 26) rfl))) rfl rfl rfl (by decide +kernel) ⟨Nat.le_of_ble_eq_true rfl, Nat.le_of_ble_eq_true rfl⟩) hK hDD hA0 hP hS 0 12 wm0 rfl rfl hl.1 (Nat.le_of_ble_eq_true rfl) dX12_person__48 (fun z9 A10 H locs hw11 hP hS => ?_)
      obtain ⟨rfl, hw11⟩ := hw11
      exact RET z9 _ _ _ _ _ ⟨hI, fr.rf, hcCI, hcWI, by omega⟩ hP hS dX12_person__51
    · refine tp_i (y := iI 2) (congrArg iI c5) ?_
      refine lv_tableIn (off := 41) (tgt := 52) hx hb dX12_person__11 (by decide +kernel) (by decide +kernel) (by decide +kernel) (by decide) ?_
      refine lv_aload_n hx hb dX12_person__52 rfl (lv_at hl 0 rfl) ?_
      refine lv_iload_n hx hb dX12_person__53 rfl (lv_at hl 1 rfl) ?_
      refine x_calli (As := [.int (iI x1)]) (rest := []) ⟨hx, hb, hml, hown, hts⟩ (mb_X12_placesOf l dC dI cB cI cJ cZ cQ q _ x1 hI (by omega) hcCI hcWI) (cwV 1 hts (goodV (wl_in_7 _ (List.mem_of_getElem? (i := 23) rfl)) (wl_in_7 _ (List.mem_of_getElem? (i := 24) rfl)) (wl_in_7 _ (List.mem_of_getElem? (i := 25) rfl)) (wl_in_0 _ (List.mem_of_getElem? (i := 8) rfl)) (wl_in_7 _ (List.mem_of_getElem? (i := 18) rfl))) rfl rfl rfl (by decide +kernel) ⟨Nat.le_of_ble_eq_true rfl, Nat.le_of_ble_eq_true rfl⟩) hK hDD hA0 hP hS 0 12 wm0 rfl rfl hl.1 (Nat.le_of_ble_eq_true rfl) dX12_person__54 (fun z12 A13 H locs hw14 hP hS => ?_)
      obtain ⟨hI, hf15, hw14⟩ := hw14
      obtain ⟨hc16, hw14⟩ := hw14
      obtain ⟨hc17, hw14⟩ := hw14
      refine x_callSi (As := [.int (iI z12)]) (rest := []) ⟨hx, hb, hml, hown, hts⟩ (mc_X12_bitsOf l dC dI cB cI cJ cZ cQ q _ z12 hI hw14) (va_cwS 1 hts (goodS (wl_in_5 _ (List.mem_of_getElem? (i := 44) rfl)) (wl_in_5 _ (List.mem_of_getElem? (i := 45) rfl)) (wl_in_0 _ (List.mem_of_getElem? (i := 8) rfl)) (wl_in_5 _ (List.mem_of_getElem? (i := 27) rfl))) rfl rfl rfl (by decide +kernel) ⟨Nat.le_of_ble_eq_true rfl, Nat.le_of_ble_eq_true rfl⟩) hK hDD hA0 hP hS rfl hl.1 (Nat.le_of_ble_eq_true rfl) dX12_person__57 (fun z18 A19 H locs hw20 hP hS => ?_)
      obtain ⟨rfl, hw20⟩ := hw20
      exact RET z18 _ _ _ _ _ ⟨hI, fr.trans (fr.rf) hf15 rfl rfl, hc16, hc17, by omega⟩ hP hS dX12_person__60
    · refine tp_i (y := iI 3) (congrArg iI c5) ?_
      refine lv_tableIn (off := 50) (tgt := 61) hx hb dX12_person__11 (by decide +kernel) (by decide +kernel) (by decide +kernel) (by decide) ?_
      refine lv_aload_n hx hb dX12_person__61 rfl (lv_at hl 0 rfl) ?_
      refine lv_iload_n hx hb dX12_person__62 rfl (lv_at hl 1 rfl) ?_
      refine x_calli (As := [.int (iI x1)]) (rest := []) ⟨hx, hb, hml, hown, hts⟩ (mb_X12_placesOf l dC dI cB cI cJ cZ cQ q _ x1 hI (by omega) hcCI hcWI) (cwV 1 hts (goodV (wl_in_7 _ (List.mem_of_getElem? (i := 23) rfl)) (wl_in_7 _ (List.mem_of_getElem? (i := 24) rfl)) (wl_in_7 _ (List.mem_of_getElem? (i := 25) rfl)) (wl_in_0 _ (List.mem_of_getElem? (i := 8) rfl)) (wl_in_7 _ (List.mem_of_getElem? (i := 18) rfl))) rfl rfl rfl (by decide +kernel) ⟨Nat.le_of_ble_eq_true rfl, Nat.le_of_ble_eq_true rfl⟩) hK hDD hA0 hP hS 0 12 wm0 rfl rfl hl.1 (Nat.le_of_ble_eq_true rfl) dX12_person__63 (fun z21 A22 H locs hw23 hP hS => ?_)
      obtain ⟨hI, hf24, hw23⟩ := hw23
      obtain ⟨hc25, hw23⟩ := hw23
      obtain ⟨hc26, hw23⟩ := hw23
      exact RET z21 _ _ _ _ _ ⟨hI, fr.trans (fr.rf) hf24 rfl rfl, hc25, hc26, by omega⟩ hP hS dX12_person__66
  · have c4 : z1 = 0 := (i_eq0 (rb rz1 (by decide) (by decide))).mp c4
    clear hw3
    refine lv_iconst (v := iI (-1)) hx hb dX12_person__8 (by decide +kernel) ?_
    exact RET (-1) _ _ _ _ _ ⟨hI, fr.rf, hcCI, hcWI, by omega⟩ hP hS dX12_person__9

def ws_mb_X12_reach : List Cond := .code yX12_reach cX12_reach 3 (some .int) :: WX
set_option maxHeartbeats 4000000 in
set_option maxRecDepth 100000 in
theorem mb_X12_reach (l : Launch) (dC : Nat → ClassId) (dI : Nat → Nat → Nat) (cB cI cJ cZ cQ : ClassId) (q : Nat → Nat) (A : St) (x1 x2 : Int) (hI : IM A) (hx1 : (-2147483648 : Int) ≤ x1 ∧ x1 ≤ 2147483647) (hx2 : (-2147483648 : Int) ≤ x2 ∧ x2 ≤ 2147483647) (hcCI : CI A) (hcWI : WI A) : XMi l yX12_reach ws_mb_X12_reach ({ frames := 6, cells := 0, slots := 0, locals := 148 } : Room) (dC, dI) (tyA cB cI cJ cZ cQ) (WM cI cJ cZ q) A [.ref (q 0), .int (iI x1), .int (iI x2)] (fun z u => IM u ∧ fr [42, 43, 47, 48, 49, 50] [66, 67, 69, 70, 71, 73] A u ∧ CI u ∧ WI u ∧ (-2147483648 ≤ z ∧ z ≤ 2147483647)) := by
  refine x_meti (cc := cX12_reach) (maxL := 3) WM_adr (by decide +kernel) rfl (Nat.le_of_ble_eq_true rfl) (fun p e s m below meth c Q AS ls hx hb hml hown hts hK hDD hA0 hP hS hl RET => ?_)
  have hown : s.vm.findClass RX12 = some m.cls := hown
  have hl : lv_has ls 3 [(0, .ref (q 0)), (1, .int (iI x1)), (2, .int (iI x2))] := hl
  obtain ⟨H, hHe⟩ : ∃ H : Heap, H = s.heap := ⟨_, rfl⟩
  rw [← hHe] at hP
  have hS : va_S AS s.heap H [] := by rw [hHe]; exact hS
  suffices hgo : ∀ locs : List Loc, va_S AS s.heap H locs → W p l e (headSpec ws_mb_X12_reach ({ frames := 6, cells := 0, slots := 0, locals := 148 } : Room)).room s m [.ref (q 0), .int (iI x1), .int (iI x2)].toArray below meth c H locs 0 0 Q (F0 m 0 ls []) by
    have := hgo [] hS
    rw [hHe] at this
    exact this
  clear hS hHe
  intro locs hS
  refine lv_aload_n hx hb dX12_reach_0 rfl (lv_at hl 0 rfl) ?_
  refine lv_iload_n hx hb dX12_reach_1 rfl (lv_at hl 1 rfl) ?_
  have r_A_0_12 : (0 : Int) ≤ (A 0 12) ∧ (A 0 12) ≤ 1 := hI 0 12
  refine x_calli (As := [.int (iI x1)]) (rest := []) ⟨hx, hb, hml, hown, hts⟩ (mc_X12_isPersonB l dC dI cB cI cJ cZ cQ q _ x1 hI hx1) (cwV 1 hts (goodV (wl_in_5 _ (List.mem_of_getElem? (i := 55) rfl)) (wl_in_5 _ (List.mem_of_getElem? (i := 56) rfl)) (wl_in_5 _ (List.mem_of_getElem? (i := 57) rfl)) (wl_in_0 _ (List.mem_of_getElem? (i := 8) rfl)) (wl_in_4 _ (List.mem_of_getElem? (i := 40) rfl))) rfl rfl rfl (by decide +kernel) ⟨Nat.le_of_ble_eq_true rfl, Nat.le_of_ble_eq_true rfl⟩) hK hDD hA0 hP hS 0 12 wm0 rfl rfl hl.1 (Nat.le_of_ble_eq_true rfl) dX12_reach_2 (fun z1 A2 H locs hw3 hP hS => ?_)
  obtain ⟨rfl, hw3⟩ := hw3
  have rz1 : 0 ≤ z1 ∧ z1 ≤ 1 := hw3.1
  refine lv_if_eq (tgt := 16) hx hb dX12_reach_5 (by decide) (fun c4 => ?_) (fun c4 => ?_)
  · have c4 : z1 = 0 := (i_eq0 (rb rz1 (by decide) (by decide))).mp c4
    clear hw3
    refine lv_iconst (v := iI (-1)) hx hb dX12_reach_16 (by decide +kernel) ?_
    exact RET (-1) _ _ _ _ _ ⟨hI, fr.rf, hcCI, hcWI, by omega⟩ hP hS dX12_reach_17
  · have c4 : ¬ z1 = 0 := mt (i_eq0 (rb rz1 (by decide) (by decide))).mpr c4
    have hw3b := hw3.2.mp (by omega)
    clear hw3
    refine lv_aload_n hx hb dX12_reach_8 rfl (lv_at hl 0 rfl) ?_
    refine lv_iload_n hx hb dX12_reach_9 rfl (lv_at hl 2 rfl) ?_
    refine x_calli (As := [.int (iI x2)]) (rest := []) ⟨hx, hb, hml, hown, hts⟩ (mc_X12_isPlaceB l dC dI cB cI cJ cZ cQ q _ x2 hI hx2) (cwV 1 hts (goodV (wl_in_7 _ (List.mem_of_getElem? (i := 27) rfl)) (wl_in_7 _ (List.mem_of_getElem? (i := 28) rfl)) (wl_in_7 _ (List.mem_of_getElem? (i := 29) rfl)) (wl_in_0 _ (List.mem_of_getElem? (i := 8) rfl)) (wl_in_4 _ (List.mem_of_getElem? (i := 37) rfl))) rfl rfl rfl (by decide +kernel) ⟨Nat.le_of_ble_eq_true rfl, Nat.le_of_ble_eq_true rfl⟩) hK hDD hA0 hP hS 0 12 wm0 rfl rfl hl.1 (Nat.le_of_ble_eq_true rfl) dX12_reach_10 (fun z5 A6 H locs hw7 hP hS => ?_)
    obtain ⟨rfl, hw7⟩ := hw7
    have rz5 : 0 ≤ z5 ∧ z5 ≤ 1 := hw7.1
    refine lv_if_ne (tgt := 18) hx hb dX12_reach_13 (by decide) (fun c8 => ?_) (fun c8 => ?_)
    · have c8 : ¬ z5 = 0 := mt (i_eq0 (rb rz5 (by decide) (by decide))).mpr c8
      have hw7b := hw7.2.mp (by omega)
      clear hw7
      refine lv_aload_n hx hb dX12_reach_18 rfl (lv_at hl 0 rfl) ?_
      refine lv_iload_n hx hb dX12_reach_19 rfl (lv_at hl 1 rfl) ?_
      refine lv_aload_n hx hb dX12_reach_20 rfl (lv_at hl 0 rfl) ?_
      refine lv_iload_n hx hb dX12_reach_21 rfl (lv_at hl 1 rfl) ?_
      refine x_calli (As := [.int (iI x1)]) (rest := [.int (iI x1), .ref (q 0)]) ⟨hx, hb, hml, hown, hts⟩ (mc_X12_keysOf l dC dI cB cI cJ cZ cQ q _ x1 hI hx1) (cwV 1 hts (goodV (wl_in_5 _ (List.mem_of_getElem? (i := 41) rfl)) (wl_in_5 _ (List.mem_of_getElem? (i := 42) rfl)) (wl_in_5 _ (List.mem_of_getElem? (i := 43) rfl)) (wl_in_0 _ (List.mem_of_getElem? (i := 8) rfl)) (wl_in_5 _ (List.mem_of_getElem? (i := 26) rfl))) rfl rfl rfl (by decide +kernel) ⟨Nat.le_of_ble_eq_true rfl, Nat.le_of_ble_eq_true rfl⟩) hK hDD hA0 hP hS 0 12 wm0 rfl rfl hl.1 (Nat.le_of_ble_eq_true rfl) dX12_reach_22 (fun z9 A10 H locs hw11 hP hS => ?_)
      obtain ⟨rfl, hw11⟩ := hw11
      refine lv_iconst (v := iI 0) hx hb dX12_reach_25 (by decide +kernel) ?_
      refine x_callv (As := [.int (iI x1), .int (iI z9), .int (iI 0)]) (rest := []) ⟨hx, hb, hml, hown, hts⟩ (mb_X12_searches l dC dI cB cI cJ cZ cQ q _ x1 z9 0 hI (by omega) hw11 ⟨by decide, by decide⟩ hcCI hcWI) (cwV 3 hts (goodV (wl_in_7 _ (List.mem_of_getElem? (i := 19) rfl)) (wl_in_7 _ (List.mem_of_getElem? (i := 20) rfl)) (wl_in_7 _ (List.mem_of_getElem? (i := 21) rfl)) (wl_in_0 _ (List.mem_of_getElem? (i := 8) rfl)) (wl_in_7 _ (List.mem_of_getElem? (i := 0) rfl))) rfl rfl rfl (by decide +kernel) ⟨Nat.le_of_ble_eq_true rfl, Nat.le_of_ble_eq_true rfl⟩) hK hDD hA0 hP hS 0 12 wm0 rfl rfl hl.1 (Nat.le_of_ble_eq_true rfl) dX12_reach_26 (fun A12 H locs hw13 hP hS => ?_)
      obtain ⟨hI, hf14, hw13⟩ := hw13
      obtain ⟨hc15, hw13⟩ := hw13
      obtain ⟨hc16, hw13⟩ := hw13
      refine lv_aload_n hx hb dX12_reach_29 rfl (lv_at hl 0 rfl) ?_
      refine lv_iload_n hx hb dX12_reach_30 rfl (lv_at hl 2 rfl) ?_
      refine x_calli (As := [.int (iI x2)]) (rest := []) ⟨hx, hb, hml, hown, hts⟩ (mc_X12_actsTo l dC dI cB cI cJ cZ cQ q _ x2 hI hx2) (cwV 1 hts (goodV (wl_in_7 _ (List.mem_of_getElem? (i := 30) rfl)) (wl_in_7 _ (List.mem_of_getElem? (i := 31) rfl)) (wl_in_7 _ (List.mem_of_getElem? (i := 32) rfl)) (wl_in_0 _ (List.mem_of_getElem? (i := 8) rfl)) (wl_in_7 _ (List.mem_of_getElem? (i := 17) rfl))) rfl rfl rfl (by decide +kernel) ⟨Nat.le_of_ble_eq_true rfl, Nat.le_of_ble_eq_true rfl⟩) hK hDD hA0 hP hS 0 12 wm0 rfl rfl hl.1 (Nat.le_of_ble_eq_true rfl) dX12_reach_31 (fun z17 A18 H locs hw19 hP hS => ?_)
      obtain ⟨hI, hf20, hw19⟩ := hw19
      exact RET z17 _ _ _ _ _ ⟨hI, fr.trans (fr.trans (fr.rf) hf14 rfl rfl) hf20 rfl rfl, (CI.fr hc15 hf20 rfl rfl), (WI.fr hc16 hf20 rfl rfl), by omega⟩ hP hS dX12_reach_34
    · have c8 : z5 = 0 := (i_eq0 (rb rz5 (by decide) (by decide))).mp c8
      clear hw7
      refine lv_iconst (v := iI (-1)) hx hb dX12_reach_16 (by decide +kernel) ?_
      exact RET (-1) _ _ _ _ _ ⟨hI, fr.rf, hcCI, hcWI, by omega⟩ hP hS dX12_reach_17

def ws_mb_X12_opens_ : List Cond := .code yX12_opens_ cX12_opens_ 4 (some .int) :: WX
set_option maxHeartbeats 4000000 in
set_option maxRecDepth 100000 in
theorem mb_X12_opens_ (l : Launch) (dC : Nat → ClassId) (dI : Nat → Nat → Nat) (cB cI cJ cZ cQ : ClassId) (q : Nat → Nat) (A : St) (x1 x2 : Int) (hI : IM A) (hx1 : (-2147483648 : Int) ≤ x1 ∧ x1 ≤ 2147483647) (hx2 : (-2147483648 : Int) ≤ x2 ∧ x2 ≤ 2147483647) (hcCI : CI A) (hcWI : WI A) : XMi l yX12_opens_ ws_mb_X12_opens_ ({ frames := 6, cells := 0, slots := 0, locals := 148 } : Room) (dC, dI) (tyA cB cI cJ cZ cQ) (WM cI cJ cZ q) A [.ref (q 0), .int (iI x1), .int (iI x2)] (fun z u => IM u ∧ fr [42, 43, 47, 48, 49, 50] [66, 67, 69, 70, 71, 73] A u ∧ CI u ∧ WI u ∧ (-2147483648 ≤ z ∧ z ≤ 2147483647)) := by
  refine x_meti (cc := cX12_opens_) (maxL := 4) WM_adr (by decide +kernel) rfl (Nat.le_of_ble_eq_true rfl) (fun p e s m below meth c Q AS ls hx hb hml hown hts hK hDD hA0 hP hS hl RET => ?_)
  have hown : s.vm.findClass RX12 = some m.cls := hown
  have hl : lv_has ls 4 [(0, .ref (q 0)), (1, .int (iI x1)), (2, .int (iI x2))] := hl
  have hiX12 : ∀ w ∈ u_ws RX12 TX12 85, w ∈ ws_mb_X12_opens_ := fun w h => List.mem_cons_of_mem _ (wx_lay w h)
  obtain ⟨H, hHe⟩ : ∃ H : Heap, H = s.heap := ⟨_, rfl⟩
  rw [← hHe] at hP
  have hS : va_S AS s.heap H [] := by rw [hHe]; exact hS
  suffices hgo : ∀ locs : List Loc, va_S AS s.heap H locs → W p l e (headSpec ws_mb_X12_opens_ ({ frames := 6, cells := 0, slots := 0, locals := 148 } : Room)).room s m [.ref (q 0), .int (iI x1), .int (iI x2)].toArray below meth c H locs 0 0 Q (F0 m 0 ls []) by
    have := hgo [] hS
    rw [hHe] at this
    exact this
  clear hS hHe
  intro locs hS
  refine lv_aload_n hx hb dX12_opens__0 rfl (lv_at hl 0 rfl) ?_
  refine lv_iload_n hx hb dX12_opens__1 rfl (lv_at hl 1 rfl) ?_
  have r_A_0_12 : (0 : Int) ≤ (A 0 12) ∧ (A 0 12) ≤ 1 := hI 0 12
  refine x_calli (As := [.int (iI x1)]) (rest := []) ⟨hx, hb, hml, hown, hts⟩ (mc_X12_isPersonB l dC dI cB cI cJ cZ cQ q _ x1 hI hx1) (cwV 1 hts (goodV (wl_in_5 _ (List.mem_of_getElem? (i := 55) rfl)) (wl_in_5 _ (List.mem_of_getElem? (i := 56) rfl)) (wl_in_5 _ (List.mem_of_getElem? (i := 57) rfl)) (wl_in_0 _ (List.mem_of_getElem? (i := 8) rfl)) (wl_in_4 _ (List.mem_of_getElem? (i := 40) rfl))) rfl rfl rfl (by decide +kernel) ⟨Nat.le_of_ble_eq_true rfl, Nat.le_of_ble_eq_true rfl⟩) hK hDD hA0 hP hS 0 12 wm0 rfl rfl hl.1 (Nat.le_of_ble_eq_true rfl) dX12_opens__2 (fun z1 A2 H locs hw3 hP hS => ?_)
  obtain ⟨rfl, hw3⟩ := hw3
  have rz1 : 0 ≤ z1 ∧ z1 ≤ 1 := hw3.1
  refine lv_if_eq (tgt := 16) hx hb dX12_opens__5 (by decide) (fun c4 => ?_) (fun c4 => ?_)
  · have c4 : z1 = 0 := (i_eq0 (rb rz1 (by decide) (by decide))).mp c4
    clear hw3
    refine lv_iconst (v := iI (-1)) hx hb dX12_opens__16 (by decide +kernel) ?_
    exact RET (-1) _ _ _ _ _ ⟨hI, fr.rf, hcCI, hcWI, by omega⟩ hP hS dX12_opens__17
  · have c4 : ¬ z1 = 0 := mt (i_eq0 (rb rz1 (by decide) (by decide))).mpr c4
    have hw3b := hw3.2.mp (by omega)
    clear hw3
    refine lv_aload_n hx hb dX12_opens__8 rfl (lv_at hl 0 rfl) ?_
    refine lv_iload_n hx hb dX12_opens__9 rfl (lv_at hl 2 rfl) ?_
    refine x_calli (As := [.int (iI x2)]) (rest := []) ⟨hx, hb, hml, hown, hts⟩ (mc_X12_isDoorB l dC dI cB cI cJ cZ cQ q _ x2 hI hx2) (cwV 1 hts (goodV (wl_in_5 _ (List.mem_of_getElem? (i := 14) rfl)) (wl_in_5 _ (List.mem_of_getElem? (i := 15) rfl)) (wl_in_5 _ (List.mem_of_getElem? (i := 16) rfl)) (wl_in_0 _ (List.mem_of_getElem? (i := 8) rfl)) (wl_in_4 _ (List.mem_of_getElem? (i := 38) rfl))) rfl rfl rfl (by decide +kernel) ⟨Nat.le_of_ble_eq_true rfl, Nat.le_of_ble_eq_true rfl⟩) hK hDD hA0 hP hS 0 12 wm0 rfl rfl hl.1 (Nat.le_of_ble_eq_true rfl) dX12_opens__10 (fun z5 A6 H locs hw7 hP hS => ?_)
    obtain ⟨rfl, hw7⟩ := hw7
    have rz5 : 0 ≤ z5 ∧ z5 ≤ 1 := hw7.1
    refine lv_if_ne (tgt := 18) hx hb dX12_opens__13 (by decide) (fun c8 => ?_) (fun c8 => ?_)
    · have c8 : ¬ z5 = 0 := mt (i_eq0 (rb rz5 (by decide) (by decide))).mpr c8
      have hw7b := hw7.2.mp (by omega)
      clear hw7
      refine lv_aload_n hx hb dX12_opens__18 rfl (lv_at hl 0 rfl) ?_
      refine lv_iload_n hx hb dX12_opens__19 rfl (lv_at hl 1 rfl) ?_
      refine lv_aload_n hx hb dX12_opens__20 rfl (lv_at hl 0 rfl) ?_
      refine lv_iload_n hx hb dX12_opens__21 rfl (lv_at hl 1 rfl) ?_
      refine x_calli (As := [.int (iI x1)]) (rest := [.int (iI x1), .ref (q 0)]) ⟨hx, hb, hml, hown, hts⟩ (mc_X12_keysOf l dC dI cB cI cJ cZ cQ q _ x1 hI hx1) (cwV 1 hts (goodV (wl_in_5 _ (List.mem_of_getElem? (i := 41) rfl)) (wl_in_5 _ (List.mem_of_getElem? (i := 42) rfl)) (wl_in_5 _ (List.mem_of_getElem? (i := 43) rfl)) (wl_in_0 _ (List.mem_of_getElem? (i := 8) rfl)) (wl_in_5 _ (List.mem_of_getElem? (i := 26) rfl))) rfl rfl rfl (by decide +kernel) ⟨Nat.le_of_ble_eq_true rfl, Nat.le_of_ble_eq_true rfl⟩) hK hDD hA0 hP hS 0 12 wm0 rfl rfl hl.1 (Nat.le_of_ble_eq_true rfl) dX12_opens__22 (fun z9 A10 H locs hw11 hP hS => ?_)
      obtain ⟨rfl, hw11⟩ := hw11
      refine lv_iconst (v := iI 0) hx hb dX12_opens__25 (by decide +kernel) ?_
      refine x_callv (As := [.int (iI x1), .int (iI z9), .int (iI 0)]) (rest := []) ⟨hx, hb, hml, hown, hts⟩ (mb_X12_searches l dC dI cB cI cJ cZ cQ q _ x1 z9 0 hI (by omega) hw11 ⟨by decide, by decide⟩ hcCI hcWI) (cwV 3 hts (goodV (wl_in_7 _ (List.mem_of_getElem? (i := 19) rfl)) (wl_in_7 _ (List.mem_of_getElem? (i := 20) rfl)) (wl_in_7 _ (List.mem_of_getElem? (i := 21) rfl)) (wl_in_0 _ (List.mem_of_getElem? (i := 8) rfl)) (wl_in_7 _ (List.mem_of_getElem? (i := 0) rfl))) rfl rfl rfl (by decide +kernel) ⟨Nat.le_of_ble_eq_true rfl, Nat.le_of_ble_eq_true rfl⟩) hK hDD hA0 hP hS 0 12 wm0 rfl rfl hl.1 (Nat.le_of_ble_eq_true rfl) dX12_opens__26 (fun A12 H locs hw13 hP hS => ?_)
      obtain ⟨hI, hf14, hw13⟩ := hw13
      obtain ⟨hc15, hw13⟩ := hw13
      obtain ⟨hc16, hw13⟩ := hw13
      refine lv_iconst (v := iI 0) hx hb dX12_opens__29 (by decide +kernel) ?_
      refine lv_istore_n (lv' := [(3, .int (iI 0)), (0, .ref (q 0)), (1, .int (iI x1)), (2, .int (iI x2))]) hx hb dX12_opens__30 rfl hl (by decide) rfl (fun ls hl => ?_)
      have L31_20 : ∀ (n22 : Nat) (z17 : Int) (A19 : St) (H : Heap) (locs : List Loc) (ls : Array Slot), (0 ≤ z17) → (0 ≤ z17 ∧ z17 ≤ 2147483647) → (((A12 0 66) - z17 + 1).toNat = n22) → IM A19 → fr [49] [67, 69] A12 A19 → va_P (dC, dI) vwCl (WM cI cJ cZ q A19) H → va_S AS s.heap H locs → lv_has ls 4 [(3, .int (iI z17)), (0, .ref (q 0)), (1, .int (iI x1)), (2, .int (iI x2))] → W p l e (headSpec ws_mb_X12_opens_ ({ frames := 6, cells := 0, slots := 0, locals := 148 } : Room)).room s m [.ref (q 0), .int (iI x1), .int (iI x2)].toArray below meth c H locs 0 0 Q (F0 m 31 ls []) := by
        intro n22
        induction n22 using Nat.strongRecOn with
        | ind n22 ih21 =>
          intro z17 A19 H locs ls f23 f24 hn22 hI hj18 hP hS hl
          refine lv_iload_n hx hb dX12_opens__31 rfl (lv_at hl 0 rfl) ?_
          refine lv_aload_n hx hb dX12_opens__32 rfl (lv_at hl 1 rfl) ?_
          have e_A19_66 : A19 0 66 = (A12 0 66) := (hj18.2 66 rfl)
          refine va_get (D := (dC, dI)) (ci := 12) (v := .int (iI (A19 0 66))) (C := RX12) (T := TX12) (N := 85) hx hb hts hiX12 hown hK hP 0 wm0 rfl 66 (by decide) (hts _ (List.mem_cons_of_mem _ (wl_in_6 _ (List.mem_of_getElem? (i := 53) rfl)))) (fun _ h9 => h9) rfl dX12_opens__33 ?_
          refine tp_i (y := iI (A12 0 66)) (congrArg iI e_A19_66) ?_
          have r_A12_0_66 : (0 : Int) ≤ (A12 0 66) ∧ (A12 0 66) ≤ 76832 := by rw [← e_A19_66]; exact hI 0 66
          refine lv_icmp_ge (tgt := 75) hx hb dX12_opens__36 (by decide) (fun c25 => ?_) (fun c25 => ?_)
          · have c25 : (A12 0 66) ≤ z17 := (i_le (rb r_A12_0_66 (by decide) (by decide)) (rb f24 (by decide) (by decide))).mp c25
            refine lv_iconst (v := iI (-1)) hx hb dX12_opens__75 (by decide +kernel) ?_
            exact RET (-1) _ _ _ _ _ ⟨hI, fr.trans (fr.trans (fr.rf) hf14 rfl rfl) hj18 rfl rfl, (CI.fr hc15 hj18 rfl rfl), (WI.fr hc16 hj18 rfl rfl), by omega⟩ hP hS dX12_opens__76
          · have c25 : ¬ (A12 0 66) ≤ z17 := mt (i_le (rb r_A12_0_66 (by decide) (by decide)) (rb f24 (by decide) (by decide))).mpr c25
            refine lv_aload_n hx hb dX12_opens__39 rfl (lv_at hl 1 rfl) ?_
            refine lv_aload_n hx hb dX12_opens__40 rfl (lv_at hl 1 rfl) ?_
            refine va_get (D := (dC, dI)) (ci := 12) (v := .ref (q 48)) (C := RX12) (T := TX12) (N := 85) hx hb hts hiX12 hown hK hP 0 wm0 rfl 65 (by decide) (hts _ (List.mem_cons_of_mem _ (wl_in_6 _ (List.mem_of_getElem? (i := 52) rfl)))) (fun _ h9 => h9) rfl dX12_opens__41 ?_
            refine lv_iload_n hx hb dX12_opens__44 rfl (lv_at hl 0 rfl) ?_
            have a_A19_48 : A19 48 = A12 48 := (hj18.1 48 (by decide) rfl)
            refine x_iald hx hb hK hP 48 1 wm48 rfl (by omega) (by decide) dX12_opens__45 (fun z26 hz26 => ?_)
            have rz26 : (0 : Int) ≤ z26 ∧ z26 ≤ 76831 := by rw [hz26]; exact hI 48 _
            have hz26 : z26 = A12 48 (z17).toNat := hz26.trans (congrFun a_A19_48 _)
            refine x_callv (As := [.int (iI z26)]) (rest := []) ⟨hx, hb, hml, hown, hts⟩ (mc_X12_takes l dC dI cB cI cJ cZ cQ q _ z26 hI rz26) (cwV 1 hts (goodV (wl_in_7 _ (List.mem_of_getElem? (i := 11) rfl)) (wl_in_7 _ (List.mem_of_getElem? (i := 12) rfl)) (wl_in_7 _ (List.mem_of_getElem? (i := 13) rfl)) (wl_in_0 _ (List.mem_of_getElem? (i := 8) rfl)) (wl_in_6 _ (List.mem_of_getElem? (i := 41) rfl))) rfl rfl rfl (by decide +kernel) ⟨Nat.le_of_ble_eq_true rfl, Nat.le_of_ble_eq_true rfl⟩) hK hDD hA0 hP hS 0 12 wm0 rfl rfl hl.1 (Nat.le_of_ble_eq_true rfl) dX12_opens__46 (fun A27 H locs hw28 hP hS => ?_)
            obtain ⟨hI, hf29, hw28⟩ := hw28
            clear hw28
            refine lv_aload_n hx hb dX12_opens__49 rfl (lv_at hl 1 rfl) ?_
            refine lv_iload_n hx hb dX12_opens__50 rfl (lv_at hl 3 rfl) ?_
            refine x_calli (As := [.int (iI x2)]) (rest := []) ⟨hx, hb, hml, hown, hts⟩ (mc_X12_isClosed l dC dI cB cI cJ cZ cQ q _ x2 hI (by omega)) (cwV 1 hts (goodV (wl_in_6 _ (List.mem_of_getElem? (i := 44) rfl)) (wl_in_6 _ (List.mem_of_getElem? (i := 45) rfl)) (wl_in_6 _ (List.mem_of_getElem? (i := 46) rfl)) (wl_in_0 _ (List.mem_of_getElem? (i := 8) rfl)) (wl_in_6 _ (List.mem_of_getElem? (i := 42) rfl))) rfl rfl rfl (by decide +kernel) ⟨Nat.le_of_ble_eq_true rfl, Nat.le_of_ble_eq_true rfl⟩) hK hDD hA0 hP hS 0 12 wm0 rfl rfl hl.1 (Nat.le_of_ble_eq_true rfl) dX12_opens__51 (fun z30 A31 H locs hw32 hP hS => ?_)
            obtain ⟨rfl, hw32⟩ := hw32
            refine lv_if_ne (tgt := 69) hx hb dX12_opens__54 (by decide) (fun c33 => ?_) (fun c33 => ?_)
            · have c33 : ¬ z30 = 0 := mt (i_eq0 (rb hw32 (by decide) (by decide))).mpr c33
              refine lv_iinc (v := iI (z17 + 1)) (lv' := [(3, .int (iI (z17 + 1))), (0, .ref (q 0)), (1, .int (iI x1)), (2, .int (iI x2))]) hx hb dX12_opens__69 hl (k := 0) rfl (i_inc (by omega)) (by decide) rfl (fun ls hl => ?_)
              refine lv_goto (tgt := 31) hx hb dX12_opens__72 (by decide) ?_
              exact ih21 _ (by omega) (z17 + 1) _ _ _ _ (by omega) (by omega) rfl hI (fr.trans (fr.trans (fr.rf) hj18 rfl rfl) hf29 rfl rfl) hP hS (lv_sub hl [0, 1, 2, 3] rfl)
            · have c33 : z30 = 0 := (i_eq0 (rb hw32 (by decide) (by decide))).mp c33
              refine lv_aload_n hx hb dX12_opens__57 rfl (lv_at hl 1 rfl) ?_
              refine va_get (D := (dC, dI)) (ci := 12) (v := .ref (q 47)) (C := RX12) (T := TX12) (N := 85) hx hb hts hiX12 hown hK hP 0 wm0 rfl 64 (by decide) (hts _ (List.mem_cons_of_mem _ (wl_in_6 _ (List.mem_of_getElem? (i := 51) rfl)))) (fun _ h9 => h9) rfl dX12_opens__58 ?_
              refine lv_aload_n hx hb dX12_opens__61 rfl (lv_at hl 1 rfl) ?_
              refine va_get (D := (dC, dI)) (ci := 12) (v := .ref (q 48)) (C := RX12) (T := TX12) (N := 85) hx hb hts hiX12 hown hK hP 0 wm0 rfl 65 (by decide) (hts _ (List.mem_cons_of_mem _ (wl_in_6 _ (List.mem_of_getElem? (i := 52) rfl)))) (fun _ h9 => h9) rfl dX12_opens__62 ?_
              refine lv_iload_n hx hb dX12_opens__65 rfl (lv_at hl 0 rfl) ?_
              have a_A27_48 : A27 48 = A12 48 := (hf29.1 48 (by decide) rfl).trans a_A19_48
              refine x_iald hx hb hK hP 48 1 wm48 rfl (by omega) (by decide) dX12_opens__66 (fun z34 hz34 => ?_)
              have rz34 : (0 : Int) ≤ z34 ∧ z34 ≤ 76831 := by rw [hz34]; exact hI 48 _
              have hz34 : z34 = A12 48 (z17).toNat := hz34.trans (congrFun a_A27_48 _)
              have ez34 : z34 = z26 := hz34.trans hz26.symm
              have a_A19_47 : A19 47 = A12 47 := (hj18.1 47 (by decide) rfl)
              have a_A27_47 : A27 47 = A12 47 := (hf29.1 47 (by decide) rfl).trans a_A19_47
              refine x_iald hx hb hK hP 47 1 wm47 rfl (by omega) (by decide) dX12_opens__67 (fun z35 hz35 => ?_)
              have rz35 : (-1 : Int) ≤ z35 ∧ z35 ≤ 76832 := by rw [hz35]; exact hI 47 _
              have hz35 : z35 = A12 47 (z34).toNat := hz35.trans (congrFun a_A27_47 _)
              exact RET z35 _ _ _ _ _ ⟨hI, fr.trans (fr.trans (fr.trans (fr.rf) hf14 rfl rfl) hj18 rfl rfl) hf29 rfl rfl, (CI.fr (CI.fr hc15 hj18 rfl rfl) hf29 rfl rfl), (WI.fr (WI.fr hc16 hj18 rfl rfl) hf29 rfl rfl), by omega⟩ hP hS dX12_opens__68
      exact L31_20 _ 0 _ _ _ _ (by omega) (by omega) rfl hI (fr.rf) hP hS (lv_sub hl [0, 1, 2, 3] rfl)
    · have c8 : z5 = 0 := (i_eq0 (rb rz5 (by decide) (by decide))).mp c8
      clear hw7
      refine lv_iconst (v := iI (-1)) hx hb dX12_opens__16 (by decide +kernel) ?_
      exact RET (-1) _ _ _ _ _ ⟨hI, fr.rf, hcCI, hcWI, by omega⟩ hP hS dX12_opens__17

def ws_mb_X12_errands : List Cond := .code yX12_errands cX12_errands 3 (some .int) :: WX
set_option maxHeartbeats 4000000 in
set_option maxRecDepth 100000 in
theorem mb_X12_errands (l : Launch) (dC : Nat → ClassId) (dI : Nat → Nat → Nat) (cB cI cJ cZ cQ : ClassId) (q : Nat → Nat) (A : St) (x1 : Int) (hI : IM A) (hx1 : (-2147483648 : Int) ≤ x1 ∧ x1 ≤ 2147483647) (hcCI : CI A) (hcWI : WI A) : XMi l yX12_errands ws_mb_X12_errands ({ frames := 6, cells := 0, slots := 0, locals := 148 } : Room) (dC, dI) (tyA cB cI cJ cZ cQ) (WM cI cJ cZ q) A [.ref (q 0), .int (iI x1)] (fun z u => IM u ∧ fr [42, 43, 47, 48, 49, 50] [66, 67, 69, 70, 71, 73] A u ∧ CI u ∧ WI u ∧ (-2147483648 ≤ z ∧ z ≤ 2147483647)) := by
  refine x_meti (cc := cX12_errands) (maxL := 3) WM_adr (by decide +kernel) rfl (Nat.le_of_ble_eq_true rfl) (fun p e s m below meth c Q AS ls hx hb hml hown hts hK hDD hA0 hP hS hl RET => ?_)
  have hown : s.vm.findClass RX12 = some m.cls := hown
  have hl : lv_has ls 3 [(0, .ref (q 0)), (1, .int (iI x1))] := hl
  have hiX12 : ∀ w ∈ u_ws RX12 TX12 85, w ∈ ws_mb_X12_errands := fun w h => List.mem_cons_of_mem _ (wx_lay w h)
  obtain ⟨H, hHe⟩ : ∃ H : Heap, H = s.heap := ⟨_, rfl⟩
  rw [← hHe] at hP
  have hS : va_S AS s.heap H [] := by rw [hHe]; exact hS
  suffices hgo : ∀ locs : List Loc, va_S AS s.heap H locs → W p l e (headSpec ws_mb_X12_errands ({ frames := 6, cells := 0, slots := 0, locals := 148 } : Room)).room s m [.ref (q 0), .int (iI x1)].toArray below meth c H locs 0 0 Q (F0 m 0 ls []) by
    have := hgo [] hS
    rw [hHe] at this
    exact this
  clear hS hHe
  intro locs hS
  refine lv_aload_n hx hb dX12_errands_0 rfl (lv_at hl 0 rfl) ?_
  refine lv_iload_n hx hb dX12_errands_1 rfl (lv_at hl 1 rfl) ?_
  have r_A_0_12 : (0 : Int) ≤ (A 0 12) ∧ (A 0 12) ≤ 1 := hI 0 12
  refine x_calli (As := [.int (iI x1)]) (rest := []) ⟨hx, hb, hml, hown, hts⟩ (mc_X12_isPersonB l dC dI cB cI cJ cZ cQ q _ x1 hI hx1) (cwV 1 hts (goodV (wl_in_5 _ (List.mem_of_getElem? (i := 55) rfl)) (wl_in_5 _ (List.mem_of_getElem? (i := 56) rfl)) (wl_in_5 _ (List.mem_of_getElem? (i := 57) rfl)) (wl_in_0 _ (List.mem_of_getElem? (i := 8) rfl)) (wl_in_4 _ (List.mem_of_getElem? (i := 40) rfl))) rfl rfl rfl (by decide +kernel) ⟨Nat.le_of_ble_eq_true rfl, Nat.le_of_ble_eq_true rfl⟩) hK hDD hA0 hP hS 0 12 wm0 rfl rfl hl.1 (Nat.le_of_ble_eq_true rfl) dX12_errands_2 (fun z1 A2 H locs hw3 hP hS => ?_)
  obtain ⟨rfl, hw3⟩ := hw3
  have rz1 : 0 ≤ z1 ∧ z1 ≤ 1 := hw3.1
  refine lv_if_ne (tgt := 10) hx hb dX12_errands_5 (by decide) (fun c4 => ?_) (fun c4 => ?_)
  · have c4 : ¬ z1 = 0 := mt (i_eq0 (rb rz1 (by decide) (by decide))).mpr c4
    have hw3b := hw3.2.mp (by omega)
    clear hw3
    refine lv_aload_n hx hb dX12_errands_10 rfl (lv_at hl 0 rfl) ?_
    refine lv_iload_n hx hb dX12_errands_11 rfl (lv_at hl 1 rfl) ?_
    refine lv_aload_n hx hb dX12_errands_12 rfl (lv_at hl 0 rfl) ?_
    refine lv_iload_n hx hb dX12_errands_13 rfl (lv_at hl 1 rfl) ?_
    refine x_calli (As := [.int (iI x1)]) (rest := [.int (iI x1), .ref (q 0)]) ⟨hx, hb, hml, hown, hts⟩ (mc_X12_keysOf l dC dI cB cI cJ cZ cQ q _ x1 hI hx1) (cwV 1 hts (goodV (wl_in_5 _ (List.mem_of_getElem? (i := 41) rfl)) (wl_in_5 _ (List.mem_of_getElem? (i := 42) rfl)) (wl_in_5 _ (List.mem_of_getElem? (i := 43) rfl)) (wl_in_0 _ (List.mem_of_getElem? (i := 8) rfl)) (wl_in_5 _ (List.mem_of_getElem? (i := 26) rfl))) rfl rfl rfl (by decide +kernel) ⟨Nat.le_of_ble_eq_true rfl, Nat.le_of_ble_eq_true rfl⟩) hK hDD hA0 hP hS 0 12 wm0 rfl rfl hl.1 (Nat.le_of_ble_eq_true rfl) dX12_errands_14 (fun z5 A6 H locs hw7 hP hS => ?_)
    obtain ⟨rfl, hw7⟩ := hw7
    refine lv_iconst (v := iI 1) hx hb dX12_errands_17 (by decide +kernel) ?_
    refine x_callv (As := [.int (iI x1), .int (iI z5), .int (iI 1)]) (rest := []) ⟨hx, hb, hml, hown, hts⟩ (mb_X12_searches l dC dI cB cI cJ cZ cQ q _ x1 z5 1 hI (by omega) hw7 ⟨by decide, by decide⟩ hcCI hcWI) (cwV 3 hts (goodV (wl_in_7 _ (List.mem_of_getElem? (i := 19) rfl)) (wl_in_7 _ (List.mem_of_getElem? (i := 20) rfl)) (wl_in_7 _ (List.mem_of_getElem? (i := 21) rfl)) (wl_in_0 _ (List.mem_of_getElem? (i := 8) rfl)) (wl_in_7 _ (List.mem_of_getElem? (i := 0) rfl))) rfl rfl rfl (by decide +kernel) ⟨Nat.le_of_ble_eq_true rfl, Nat.le_of_ble_eq_true rfl⟩) hK hDD hA0 hP hS 0 12 wm0 rfl rfl hl.1 (Nat.le_of_ble_eq_true rfl) dX12_errands_18 (fun A8 H locs hw9 hP hS => ?_)
    obtain ⟨hI, hf10, hw9⟩ := hw9
    obtain ⟨hc11, hw9⟩ := hw9
    obtain ⟨hc12, hw9⟩ := hw9
    refine lv_iconst (v := iI 0) hx hb dX12_errands_21 (by decide +kernel) ?_
    refine lv_istore_n (lv' := [(2, .int (iI 0)), (0, .ref (q 0)), (1, .int (iI x1))]) hx hb dX12_errands_22 rfl hl (by decide) rfl (fun ls hl => ?_)
    have L23_16 : ∀ (n18 : Nat) (z13 : Int) (A15 : St) (H : Heap) (locs : List Loc) (ls : Array Slot), (0 ≤ z13) → (0 ≤ z13 ∧ z13 ≤ 2147483647) → (((A8 0 66) - z13 + 1).toNat = n18) → IM A15 → fr [49] [67, 69] A8 A15 → va_P (dC, dI) vwCl (WM cI cJ cZ q A15) H → va_S AS s.heap H locs → lv_has ls 3 [(2, .int (iI z13)), (0, .ref (q 0)), (1, .int (iI x1))] → W p l e (headSpec ws_mb_X12_errands ({ frames := 6, cells := 0, slots := 0, locals := 148 } : Room)).room s m [.ref (q 0), .int (iI x1)].toArray below meth c H locs 0 0 Q (F0 m 23 ls []) := by
      intro n18
      induction n18 using Nat.strongRecOn with
      | ind n18 ih17 =>
        intro z13 A15 H locs ls f19 f20 hn18 hI hj14 hP hS hl
        refine lv_iload_n hx hb dX12_errands_23 rfl (lv_at hl 0 rfl) ?_
        refine lv_aload_n hx hb dX12_errands_24 rfl (lv_at hl 1 rfl) ?_
        have e_A15_66 : A15 0 66 = (A8 0 66) := (hj14.2 66 rfl)
        refine va_get (D := (dC, dI)) (ci := 12) (v := .int (iI (A15 0 66))) (C := RX12) (T := TX12) (N := 85) hx hb hts hiX12 hown hK hP 0 wm0 rfl 66 (by decide) (hts _ (List.mem_cons_of_mem _ (wl_in_6 _ (List.mem_of_getElem? (i := 53) rfl)))) (fun _ h9 => h9) rfl dX12_errands_25 ?_
        refine tp_i (y := iI (A8 0 66)) (congrArg iI e_A15_66) ?_
        have r_A8_0_66 : (0 : Int) ≤ (A8 0 66) ∧ (A8 0 66) ≤ 76832 := by rw [← e_A15_66]; exact hI 0 66
        refine lv_icmp_ge (tgt := 74) hx hb dX12_errands_28 (by decide) (fun c21 => ?_) (fun c21 => ?_)
        · have c21 : (A8 0 66) ≤ z13 := (i_le (rb r_A8_0_66 (by decide) (by decide)) (rb f20 (by decide) (by decide))).mp c21
          refine lv_iconst (v := iI (-1)) hx hb dX12_errands_74 (by decide +kernel) ?_
          exact RET (-1) _ _ _ _ _ ⟨hI, fr.trans (fr.trans (fr.rf) hf10 rfl rfl) hj14 rfl rfl, (CI.fr hc11 hj14 rfl rfl), (WI.fr hc12 hj14 rfl rfl), by omega⟩ hP hS dX12_errands_75
        · have c21 : ¬ (A8 0 66) ≤ z13 := mt (i_le (rb r_A8_0_66 (by decide) (by decide)) (rb f20 (by decide) (by decide))).mpr c21
          refine lv_aload_n hx hb dX12_errands_31 rfl (lv_at hl 1 rfl) ?_
          refine lv_aload_n hx hb dX12_errands_32 rfl (lv_at hl 1 rfl) ?_
          refine va_get (D := (dC, dI)) (ci := 12) (v := .ref (q 48)) (C := RX12) (T := TX12) (N := 85) hx hb hts hiX12 hown hK hP 0 wm0 rfl 65 (by decide) (hts _ (List.mem_cons_of_mem _ (wl_in_6 _ (List.mem_of_getElem? (i := 52) rfl)))) (fun _ h9 => h9) rfl dX12_errands_33 ?_
          refine lv_iload_n hx hb dX12_errands_36 rfl (lv_at hl 0 rfl) ?_
          have a_A15_48 : A15 48 = A8 48 := (hj14.1 48 (by decide) rfl)
          refine x_iald hx hb hK hP 48 1 wm48 rfl (by omega) (by decide) dX12_errands_37 (fun z22 hz22 => ?_)
          have rz22 : (0 : Int) ≤ z22 ∧ z22 ≤ 76831 := by rw [hz22]; exact hI 48 _
          have hz22 : z22 = A8 48 (z13).toNat := hz22.trans (congrFun a_A15_48 _)
          refine x_callv (As := [.int (iI z22)]) (rest := []) ⟨hx, hb, hml, hown, hts⟩ (mc_X12_takes l dC dI cB cI cJ cZ cQ q _ z22 hI rz22) (cwV 1 hts (goodV (wl_in_7 _ (List.mem_of_getElem? (i := 11) rfl)) (wl_in_7 _ (List.mem_of_getElem? (i := 12) rfl)) (wl_in_7 _ (List.mem_of_getElem? (i := 13) rfl)) (wl_in_0 _ (List.mem_of_getElem? (i := 8) rfl)) (wl_in_6 _ (List.mem_of_getElem? (i := 41) rfl))) rfl rfl rfl (by decide +kernel) ⟨Nat.le_of_ble_eq_true rfl, Nat.le_of_ble_eq_true rfl⟩) hK hDD hA0 hP hS 0 12 wm0 rfl rfl hl.1 (Nat.le_of_ble_eq_true rfl) dX12_errands_38 (fun A23 H locs hw24 hP hS => ?_)
          obtain ⟨hI, hf25, hw24⟩ := hw24
          clear hw24
          refine lv_aload_n hx hb dX12_errands_41 rfl (lv_at hl 1 rfl) ?_
          refine va_get (D := (dC, dI)) (ci := 12) (v := .int (iI (A23 0 69))) (C := RX12) (T := TX12) (N := 85) hx hb hts hiX12 hown hK hP 0 wm0 rfl 69 (by decide) (hts _ (List.mem_cons_of_mem _ (wl_in_6 _ (List.mem_of_getElem? (i := 40) rfl)))) (fun _ h9 => h9) rfl dX12_errands_42 ?_
          have r_A23_0_69 : (0 : Int) ≤ (A23 0 69) ∧ (A23 0 69) ≤ 3 := hI 0 69
          refine lv_iconst (v := iI 1) hx hb dX12_errands_45 (by decide +kernel) ?_
          refine lv_aload_n hx hb dX12_errands_46 rfl (lv_at hl 1 rfl) ?_
          have e_A15_73 : A15 0 73 = (A8 0 73) := (hj14.2 73 rfl)
          have e_A23_73 : A23 0 73 = (A8 0 73) := (hf25.2 73 rfl).trans e_A15_73
          refine va_get (D := (dC, dI)) (ci := 12) (v := .int (iI (A23 0 73))) (C := RX12) (T := TX12) (N := 85) hx hb hts hiX12 hown hK hP 0 wm0 rfl 73 (by decide) (hts _ (List.mem_cons_of_mem _ (wl_in_6 _ (List.mem_of_getElem? (i := 48) rfl)))) (fun _ h9 => h9) rfl dX12_errands_47 ?_
          refine tp_i (y := iI (A8 0 73)) (congrArg iI e_A23_73) ?_
          have r_A8_0_73 : (0 : Int) ≤ (A8 0 73) ∧ (A8 0 73) ≤ 2 := by rw [← e_A23_73]; exact hI 0 73
          refine x_shl1 (M := 2) (t := 4) hx hb dX12_errands_50 (by omega) (by decide) (by decide) (fun z26 hz26 => ?_)
          refine lv_iconst (v := iI 1) hx hb dX12_errands_51 (by decide +kernel) ?_
          refine x_subv (v := z26 - 1) hx hb dX12_errands_52 (by omega) ?_
          refine lv_icmp_ne (tgt := 68) hx hb dX12_errands_53 (by decide) (fun c27 => ?_) (fun c27 => ?_)
          · have c27 : ¬ (A23 0 69) = z26 - 1 := mt (i_eq (rb r_A23_0_69 (by decide) (by decide)) (by omega)).mpr c27
            refine lv_iinc (v := iI (z13 + 1)) (lv' := [(2, .int (iI (z13 + 1))), (0, .ref (q 0)), (1, .int (iI x1))]) hx hb dX12_errands_68 hl (k := 0) rfl (i_inc (by omega)) (by decide) rfl (fun ls hl => ?_)
            refine lv_goto (tgt := 23) hx hb dX12_errands_71 (by decide) ?_
            exact ih17 _ (by omega) (z13 + 1) _ _ _ _ (by omega) (by omega) rfl hI (fr.trans (fr.trans (fr.rf) hj14 rfl rfl) hf25 rfl rfl) hP hS (lv_sub hl [0, 1, 2] rfl)
          · have c27 : (A23 0 69) = z26 - 1 := (i_eq (rb r_A23_0_69 (by decide) (by decide)) (by omega)).mp c27
            refine lv_aload_n hx hb dX12_errands_56 rfl (lv_at hl 1 rfl) ?_
            refine va_get (D := (dC, dI)) (ci := 12) (v := .ref (q 47)) (C := RX12) (T := TX12) (N := 85) hx hb hts hiX12 hown hK hP 0 wm0 rfl 64 (by decide) (hts _ (List.mem_cons_of_mem _ (wl_in_6 _ (List.mem_of_getElem? (i := 51) rfl)))) (fun _ h9 => h9) rfl dX12_errands_57 ?_
            refine lv_aload_n hx hb dX12_errands_60 rfl (lv_at hl 1 rfl) ?_
            refine va_get (D := (dC, dI)) (ci := 12) (v := .ref (q 48)) (C := RX12) (T := TX12) (N := 85) hx hb hts hiX12 hown hK hP 0 wm0 rfl 65 (by decide) (hts _ (List.mem_cons_of_mem _ (wl_in_6 _ (List.mem_of_getElem? (i := 52) rfl)))) (fun _ h9 => h9) rfl dX12_errands_61 ?_
            refine lv_iload_n hx hb dX12_errands_64 rfl (lv_at hl 0 rfl) ?_
            have a_A23_48 : A23 48 = A8 48 := (hf25.1 48 (by decide) rfl).trans a_A15_48
            refine x_iald hx hb hK hP 48 1 wm48 rfl (by omega) (by decide) dX12_errands_65 (fun z28 hz28 => ?_)
            have rz28 : (0 : Int) ≤ z28 ∧ z28 ≤ 76831 := by rw [hz28]; exact hI 48 _
            have hz28 : z28 = A8 48 (z13).toNat := hz28.trans (congrFun a_A23_48 _)
            have ez28 : z28 = z22 := hz28.trans hz22.symm
            have a_A15_47 : A15 47 = A8 47 := (hj14.1 47 (by decide) rfl)
            have a_A23_47 : A23 47 = A8 47 := (hf25.1 47 (by decide) rfl).trans a_A15_47
            refine x_iald hx hb hK hP 47 1 wm47 rfl (by omega) (by decide) dX12_errands_66 (fun z29 hz29 => ?_)
            have rz29 : (-1 : Int) ≤ z29 ∧ z29 ≤ 76832 := by rw [hz29]; exact hI 47 _
            have hz29 : z29 = A8 47 (z28).toNat := hz29.trans (congrFun a_A23_47 _)
            exact RET z29 _ _ _ _ _ ⟨hI, fr.trans (fr.trans (fr.trans (fr.rf) hf10 rfl rfl) hj14 rfl rfl) hf25 rfl rfl, (CI.fr (CI.fr hc11 hj14 rfl rfl) hf25 rfl rfl), (WI.fr (WI.fr hc12 hj14 rfl rfl) hf25 rfl rfl), by omega⟩ hP hS dX12_errands_67
    exact L23_16 _ 0 _ _ _ _ (by omega) (by omega) rfl hI (fr.rf) hP hS (lv_sub hl [0, 1, 2] rfl)
  · have c4 : z1 = 0 := (i_eq0 (rb rz1 (by decide) (by decide))).mp c4
    clear hw3
    refine lv_iconst (v := iI (-1)) hx hb dX12_errands_8 (by decide +kernel) ?_
    exact RET (-1) _ _ _ _ _ ⟨hI, fr.rf, hcCI, hcWI, by omega⟩ hP hS dX12_errands_9

def ws_mb_X12_lent : List Cond := .code yX12_lent cX12_lent 10 (some .int) :: WX
set_option maxHeartbeats 4000000 in
set_option maxRecDepth 100000 in
theorem mb_X12_lent (l : Launch) (dC : Nat → ClassId) (dI : Nat → Nat → Nat) (cB cI cJ cZ cQ : ClassId) (q : Nat → Nat) (A : St) (x1 x2 x3 : Int) (hI : IM A) (hx1 : (-2147483648 : Int) ≤ x1 ∧ x1 ≤ 2147483647) (hx2 : (-2147483648 : Int) ≤ x2 ∧ x2 ≤ 2147483647) (hx3 : (-2147483648 : Int) ≤ x3 ∧ x3 ≤ 2147483647) (hcCI : CI A) (hcWI : WI A) : XMi l yX12_lent ws_mb_X12_lent ({ frames := 6, cells := 0, slots := 0, locals := 148 } : Room) (dC, dI) (tyA cB cI cJ cZ cQ) (WM cI cJ cZ q) A [.ref (q 0), .int (iI x1), .int (iI x2), .int (iI x3)] (fun z u => IM u ∧ fr [42, 43, 47, 48, 49, 50] [66, 67, 69, 70, 71, 73] A u ∧ CI u ∧ WI u ∧ (-2147483648 ≤ z ∧ z ≤ 2147483647)) := by
  refine x_meti (cc := cX12_lent) (maxL := 10) WM_adr (by decide +kernel) rfl (Nat.le_of_ble_eq_true rfl) (fun p e s m below meth c Q AS ls hx hb hml hown hts hK hDD hA0 hP hS hl RET => ?_)
  have hown : s.vm.findClass RX12 = some m.cls := hown
  have hl : lv_has ls 10 [(0, .ref (q 0)), (1, .int (iI x1)), (2, .int (iI x2)), (3, .int (iI x3))] := hl
  have hiX12 : ∀ w ∈ u_ws RX12 TX12 85, w ∈ ws_mb_X12_lent := fun w h => List.mem_cons_of_mem _ (wx_lay w h)
  obtain ⟨H, hHe⟩ : ∃ H : Heap, H = s.heap := ⟨_, rfl⟩
  rw [← hHe] at hP
  have hS : va_S AS s.heap H [] := by rw [hHe]; exact hS
  suffices hgo : ∀ locs : List Loc, va_S AS s.heap H locs → W p l e (headSpec ws_mb_X12_lent ({ frames := 6, cells := 0, slots := 0, locals := 148 } : Room)).room s m [.ref (q 0), .int (iI x1), .int (iI x2), .int (iI x3)].toArray below meth c H locs 0 0 Q (F0 m 0 ls []) by
    have := hgo [] hS
    rw [hHe] at this
    exact this
  clear hS hHe
  intro locs hS
  refine lv_aload_n hx hb dX12_lent_0 rfl (lv_at hl 0 rfl) ?_
  refine lv_iload_n hx hb dX12_lent_1 rfl (lv_at hl 1 rfl) ?_
  have r_A_0_12 : (0 : Int) ≤ (A 0 12) ∧ (A 0 12) ≤ 1 := hI 0 12
  refine x_calli (As := [.int (iI x1)]) (rest := []) ⟨hx, hb, hml, hown, hts⟩ (mc_X12_isPersonB l dC dI cB cI cJ cZ cQ q _ x1 hI hx1) (cwV 1 hts (goodV (wl_in_5 _ (List.mem_of_getElem? (i := 55) rfl)) (wl_in_5 _ (List.mem_of_getElem? (i := 56) rfl)) (wl_in_5 _ (List.mem_of_getElem? (i := 57) rfl)) (wl_in_0 _ (List.mem_of_getElem? (i := 8) rfl)) (wl_in_4 _ (List.mem_of_getElem? (i := 40) rfl))) rfl rfl rfl (by decide +kernel) ⟨Nat.le_of_ble_eq_true rfl, Nat.le_of_ble_eq_true rfl⟩) hK hDD hA0 hP hS 0 12 wm0 rfl rfl hl.1 (Nat.le_of_ble_eq_true rfl) dX12_lent_2 (fun z1 A2 H locs hw3 hP hS => ?_)
  obtain ⟨rfl, hw3⟩ := hw3
  have rz1 : 0 ≤ z1 ∧ z1 ≤ 1 := hw3.1
  refine lv_if_eq (tgt := 25) hx hb dX12_lent_5 (by decide) (fun c4 => ?_) (fun c4 => ?_)
  · have c4 : z1 = 0 := (i_eq0 (rb rz1 (by decide) (by decide))).mp c4
    clear hw3
    refine lv_iconst (v := iI (-1)) hx hb dX12_lent_25 (by decide +kernel) ?_
    exact RET (-1) _ _ _ _ _ ⟨hI, fr.rf, hcCI, hcWI, by omega⟩ hP hS dX12_lent_26
  · have c4 : ¬ z1 = 0 := mt (i_eq0 (rb rz1 (by decide) (by decide))).mpr c4
    have hw3b := hw3.2.mp (by omega)
    clear hw3
    refine lv_aload_n hx hb dX12_lent_8 rfl (lv_at hl 0 rfl) ?_
    refine lv_iload_n hx hb dX12_lent_9 rfl (lv_at hl 2 rfl) ?_
    refine x_calli (As := [.int (iI x2)]) (rest := []) ⟨hx, hb, hml, hown, hts⟩ (mc_X12_isPlaceB l dC dI cB cI cJ cZ cQ q _ x2 hI hx2) (cwV 1 hts (goodV (wl_in_7 _ (List.mem_of_getElem? (i := 27) rfl)) (wl_in_7 _ (List.mem_of_getElem? (i := 28) rfl)) (wl_in_7 _ (List.mem_of_getElem? (i := 29) rfl)) (wl_in_0 _ (List.mem_of_getElem? (i := 8) rfl)) (wl_in_4 _ (List.mem_of_getElem? (i := 37) rfl))) rfl rfl rfl (by decide +kernel) ⟨Nat.le_of_ble_eq_true rfl, Nat.le_of_ble_eq_true rfl⟩) hK hDD hA0 hP hS 0 12 wm0 rfl rfl hl.1 (Nat.le_of_ble_eq_true rfl) dX12_lent_10 (fun z5 A6 H locs hw7 hP hS => ?_)
    obtain ⟨rfl, hw7⟩ := hw7
    have rz5 : 0 ≤ z5 ∧ z5 ≤ 1 := hw7.1
    refine lv_if_eq (tgt := 25) hx hb dX12_lent_13 (by decide) (fun c8 => ?_) (fun c8 => ?_)
    · have c8 : z5 = 0 := (i_eq0 (rb rz5 (by decide) (by decide))).mp c8
      clear hw7
      refine lv_iconst (v := iI (-1)) hx hb dX12_lent_25 (by decide +kernel) ?_
      exact RET (-1) _ _ _ _ _ ⟨hI, fr.rf, hcCI, hcWI, by omega⟩ hP hS dX12_lent_26
    · have c8 : ¬ z5 = 0 := mt (i_eq0 (rb rz5 (by decide) (by decide))).mpr c8
      have hw7b := hw7.2.mp (by omega)
      clear hw7
      refine lv_iload_n hx hb dX12_lent_16 rfl (lv_at hl 3 rfl) ?_
      refine lv_iconst (v := iI 0) hx hb dX12_lent_17 (by decide +kernel) ?_
      refine lv_iconst (v := iI 2) hx hb dX12_lent_18 (by decide +kernel) ?_
      refine x_callSi (As := [.int (iI x3), .int (iI 0), .int (iI 2)]) (rest := []) ⟨hx, hb, hml, hown, hts⟩ (mc_X12_is l dC dI cB cI cJ cZ cQ q _ x3 0 2 hI hx3 ⟨by decide, by decide⟩ ⟨by decide, by decide⟩) (va_cwS 3 hts (goodS (wl_in_1 _ (List.mem_of_getElem? (i := 27) rfl)) (wl_in_1 _ (List.mem_of_getElem? (i := 28) rfl)) (wl_in_0 _ (List.mem_of_getElem? (i := 8) rfl)) (wl_in_0 _ (List.mem_of_getElem? (i := 0) rfl))) rfl rfl rfl (by decide +kernel) ⟨Nat.le_of_ble_eq_true rfl, Nat.le_of_ble_eq_true rfl⟩) hK hDD hA0 hP hS rfl hl.1 (Nat.le_of_ble_eq_true rfl) dX12_lent_19 (fun z9 A10 H locs hw11 hP hS => ?_)
      obtain ⟨rfl, hw11⟩ := hw11
      have hw11 := hw11.2
      have rz9 : 0 ≤ z9 ∧ z9 ≤ 1 := hw11.1
      refine lv_if_ne (tgt := 27) hx hb dX12_lent_22 (by decide) (fun c12 => ?_) (fun c12 => ?_)
      · have c12 : ¬ z9 = 0 := mt (i_eq0 (rb rz9 (by decide) (by decide))).mpr c12
        have hw11b := hw11.2.mp (by omega)
        clear hw11
        refine lv_aload_n hx hb dX12_lent_27 rfl (lv_at hl 0 rfl) ?_
        refine lv_iload_n hx hb dX12_lent_28 rfl (lv_at hl 1 rfl) ?_
        refine x_calli (As := [.int (iI x1)]) (rest := []) ⟨hx, hb, hml, hown, hts⟩ (mc_X12_keysOf l dC dI cB cI cJ cZ cQ q _ x1 hI hx1) (cwV 1 hts (goodV (wl_in_5 _ (List.mem_of_getElem? (i := 41) rfl)) (wl_in_5 _ (List.mem_of_getElem? (i := 42) rfl)) (wl_in_5 _ (List.mem_of_getElem? (i := 43) rfl)) (wl_in_0 _ (List.mem_of_getElem? (i := 8) rfl)) (wl_in_5 _ (List.mem_of_getElem? (i := 26) rfl))) rfl rfl rfl (by decide +kernel) ⟨Nat.le_of_ble_eq_true rfl, Nat.le_of_ble_eq_true rfl⟩) hK hDD hA0 hP hS 0 12 wm0 rfl rfl hl.1 (Nat.le_of_ble_eq_true rfl) dX12_lent_29 (fun z13 A14 H locs hw15 hP hS => ?_)
        obtain ⟨rfl, hw15⟩ := hw15
        refine lv_istore (lv' := [(4, .int (iI z13)), (0, .ref (q 0)), (1, .int (iI x1)), (2, .int (iI x2)), (3, .int (iI x3))]) hx hb dX12_lent_32 hl (by decide) rfl (fun ls hl => ?_)
        refine lv_aload_n hx hb dX12_lent_34 rfl (lv_at hl 1 rfl) ?_
        refine lv_iload_n hx hb dX12_lent_35 rfl (lv_at hl 2 rfl) ?_
        refine lv_iload hx hb dX12_lent_36 (lv_at hl 0 rfl) ?_
        refine lv_iconst (v := iI 0) hx hb dX12_lent_38 (by decide +kernel) ?_
        refine x_callv (As := [.int (iI x1), .int (iI z13), .int (iI 0)]) (rest := []) ⟨hx, hb, hml, hown, hts⟩ (mb_X12_searches l dC dI cB cI cJ cZ cQ q _ x1 z13 0 hI (by omega) hw15 ⟨by decide, by decide⟩ hcCI hcWI) (cwV 3 hts (goodV (wl_in_7 _ (List.mem_of_getElem? (i := 19) rfl)) (wl_in_7 _ (List.mem_of_getElem? (i := 20) rfl)) (wl_in_7 _ (List.mem_of_getElem? (i := 21) rfl)) (wl_in_0 _ (List.mem_of_getElem? (i := 8) rfl)) (wl_in_7 _ (List.mem_of_getElem? (i := 0) rfl))) rfl rfl rfl (by decide +kernel) ⟨Nat.le_of_ble_eq_true rfl, Nat.le_of_ble_eq_true rfl⟩) hK hDD hA0 hP hS 0 12 wm0 rfl rfl hl.1 (Nat.le_of_ble_eq_true rfl) dX12_lent_39 (fun A16 H locs hw17 hP hS => ?_)
        obtain ⟨hI, hf18, hw17⟩ := hw17
        obtain ⟨hc19, hw17⟩ := hw17
        obtain ⟨hc20, hw17⟩ := hw17
        refine lv_aload_n hx hb dX12_lent_42 rfl (lv_at hl 1 rfl) ?_
        refine lv_iload_n hx hb dX12_lent_43 rfl (lv_at hl 3 rfl) ?_
        refine x_calli (As := [.int (iI x2)]) (rest := []) ⟨hx, hb, hml, hown, hts⟩ (mc_X12_actsTo l dC dI cB cI cJ cZ cQ q _ x2 hI hx2) (cwV 1 hts (goodV (wl_in_7 _ (List.mem_of_getElem? (i := 30) rfl)) (wl_in_7 _ (List.mem_of_getElem? (i := 31) rfl)) (wl_in_7 _ (List.mem_of_getElem? (i := 32) rfl)) (wl_in_0 _ (List.mem_of_getElem? (i := 8) rfl)) (wl_in_7 _ (List.mem_of_getElem? (i := 17) rfl))) rfl rfl rfl (by decide +kernel) ⟨Nat.le_of_ble_eq_true rfl, Nat.le_of_ble_eq_true rfl⟩) hK hDD hA0 hP hS 0 12 wm0 rfl rfl hl.1 (Nat.le_of_ble_eq_true rfl) dX12_lent_44 (fun z21 A22 H locs hw23 hP hS => ?_)
        obtain ⟨hI, hf24, hw23⟩ := hw23
        refine lv_istore (lv' := [(5, .int (iI z21)), (4, .int (iI z13)), (0, .ref (q 0)), (1, .int (iI x1)), (2, .int (iI x2)), (3, .int (iI x3))]) hx hb dX12_lent_47 hl (by decide) rfl (fun ls hl => ?_)
        refine lv_iconst (v := iI (-1)) hx hb dX12_lent_49 (by decide +kernel) ?_
        refine lv_istore (lv' := [(6, .int (iI (-1))), (5, .int (iI z21)), (4, .int (iI z13)), (0, .ref (q 0)), (1, .int (iI x1)), (2, .int (iI x2)), (3, .int (iI x3))]) hx hb dX12_lent_50 hl (by decide) rfl (fun ls hl => ?_)
        refine lv_iconst (v := iI (-1)) hx hb dX12_lent_52 (by decide +kernel) ?_
        refine lv_istore (lv' := [(7, .int (iI (-1))), (6, .int (iI (-1))), (5, .int (iI z21)), (4, .int (iI z13)), (0, .ref (q 0)), (1, .int (iI x1)), (2, .int (iI x2)), (3, .int (iI x3))]) hx hb dX12_lent_53 hl (by decide) rfl (fun ls hl => ?_)
        refine lv_iconst (v := iI 0) hx hb dX12_lent_55 (by decide +kernel) ?_
        refine lv_istore (lv' := [(8, .int (iI 0)), (7, .int (iI (-1))), (6, .int (iI (-1))), (5, .int (iI z21)), (4, .int (iI z13)), (0, .ref (q 0)), (1, .int (iI x1)), (2, .int (iI x2)), (3, .int (iI x3))]) hx hb dX12_lent_56 hl (by decide) rfl (fun ls hl => ?_)
        have L58_31 : ∀ (n33 : Nat) (z25 z26 z27 : Int) (A29 : St) (H : Heap) (locs : List Loc) (ls : Array Slot), (0 ≤ z25) → (0 ≤ z25 ∧ z25 ≤ 2147483647) → (-2147483648 ≤ z26 ∧ z26 ≤ 2147483647) → (-2147483648 ≤ z27 ∧ z27 ≤ 2147483647) → ((A 11 ((A 0 12)).toNat - z25 + 1).toNat = n33) → IM A29 → fr [42, 43, 47, 48, 49, 50] [66, 67, 69, 70, 71, 73] A22 A29 → va_P (dC, dI) vwCl (WM cI cJ cZ q A29) H → va_S AS s.heap H locs → lv_has ls 10 [(8, .int (iI z25)), (7, .int (iI z26)), (6, .int (iI z27)), (5, .int (iI z21)), (4, .int (iI z13)), (0, .ref (q 0)), (1, .int (iI x1)), (2, .int (iI x2)), (3, .int (iI x3))] → W p l e (headSpec ws_mb_X12_lent ({ frames := 6, cells := 0, slots := 0, locals := 148 } : Room)).room s m [.ref (q 0), .int (iI x1), .int (iI x2), .int (iI x3)].toArray below meth c H locs 0 0 Q (F0 m 58 ls []) := by
          intro n33
          induction n33 using Nat.strongRecOn with
          | ind n33 ih32 =>
            intro z25 z26 z27 A29 H locs ls f34 f35 f36 f37 hn33 hI hj28 hP hS hl
            refine lv_iload hx hb dX12_lent_58 (lv_at hl 0 rfl) ?_
            refine lv_aload_n hx hb dX12_lent_60 rfl (lv_at hl 5 rfl) ?_
            refine va_get (D := (dC, dI)) (ci := 12) (v := .ref (q 11)) (C := RX12) (T := TX12) (N := 85) hx hb hts hiX12 hown hK hP 0 wm0 rfl 22 (by decide) (hts _ (List.mem_cons_of_mem _ (wl_in_1 _ (List.mem_of_getElem? (i := 14) rfl)))) (fun _ h9 => h9) rfl dX12_lent_61 ?_
            refine lv_aload_n hx hb dX12_lent_64 rfl (lv_at hl 5 rfl) ?_
            have e_A16_12 : A16 0 12 = (A 0 12) := (hf18.2 12 rfl)
            have e_A22_12 : A22 0 12 = (A 0 12) := (hf24.2 12 rfl).trans e_A16_12
            have e_A29_12 : A29 0 12 = (A 0 12) := (hj28.2 12 rfl).trans e_A22_12
            refine va_get (D := (dC, dI)) (ci := 12) (v := .int (iI (A29 0 12))) (C := RX12) (T := TX12) (N := 85) hx hb hts hiX12 hown hK hP 0 wm0 rfl 12 (by decide) (hts _ (List.mem_cons_of_mem _ (wl_in_4 _ (List.mem_of_getElem? (i := 14) rfl)))) (fun _ h9 => h9) rfl dX12_lent_65 ?_
            refine tp_i (y := iI (A 0 12)) (congrArg iI e_A29_12) ?_
            have a_A16_11 : A16 11 = A 11 := (hf18.1 11 (by decide) rfl)
            have a_A22_11 : A22 11 = A 11 := (hf24.1 11 (by decide) rfl).trans a_A16_11
            have a_A29_11 : A29 11 = A 11 := (hj28.1 11 (by decide) rfl).trans a_A22_11
            refine x_iald hx hb hK hP 11 1 wm11 rfl (by omega) (by decide) dX12_lent_68 (fun z38 hz38 => ?_)
            have rz38 : (0 : Int) ≤ z38 ∧ z38 ≤ 4 := by rw [hz38]; exact hI 11 _
            have hz38 : z38 = A 11 ((A 0 12)).toNat := hz38.trans (congrFun a_A29_11 _)
            refine lv_icmp_ge (tgt := 158) hx hb dX12_lent_69 (by decide) (fun c39 => ?_) (fun c39 => ?_)
            · have c39 : z38 ≤ z25 := (i_le (rb rz38 (by decide) (by decide)) (rb f35 (by decide) (by decide))).mp c39
              refine lv_iload hx hb dX12_lent_158 (lv_at hl 2 rfl) ?_
              refine lv_iconst (v := iI (-1)) hx hb dX12_lent_160 (by decide +kernel) ?_
              refine lv_icmp_ne (tgt := 166) hx hb dX12_lent_161 (by decide) (fun c40 => ?_) (fun c40 => ?_)
              · have c40 : ¬ z27 = (-1) := mt (i_eq f37 ⟨by decide, by decide⟩).mpr c40
                refine lv_iload_n hx hb dX12_lent_166 rfl (lv_at hl 8 rfl) ?_
                refine lv_if_ne (tgt := 175) hx hb dX12_lent_167 (by decide) (fun c41 => ?_) (fun c41 => ?_)
                · have c41 : ¬ x3 = 0 := mt (i_eq0 hx3).mpr c41
                  refine lv_iload_n hx hb dX12_lent_175 rfl (lv_at hl 8 rfl) ?_
                  refine lv_iconst (v := iI 1) hx hb dX12_lent_176 (by decide +kernel) ?_
                  refine lv_icmp_ne (tgt := 185) hx hb dX12_lent_177 (by decide) (fun c42 => ?_) (fun c42 => ?_)
                  · have c42 : ¬ x3 = 1 := mt (i_eq hx3 ⟨by decide, by decide⟩).mpr c42
                    refine lv_iload hx hb dX12_lent_185 (lv_at hl 3 rfl) ?_
                    refine lv_iconst (v := iI (-1)) hx hb dX12_lent_187 (by decide +kernel) ?_
                    refine lv_icmp_ne (tgt := 195) hx hb dX12_lent_188 (by decide) (fun c43 => ?_) (fun c43 => ?_)
                    · have c43 : ¬ z21 = (-1) := mt (i_eq hw23 ⟨by decide, by decide⟩).mpr c43
                      refine lv_iload hx hb dX12_lent_195 (lv_at hl 3 rfl) ?_
                      refine lv_iload hx hb dX12_lent_197 (lv_at hl 1 rfl) ?_
                      refine x_subv (v := z21 - z26) hx hb dX12_lent_199 (by omega) ?_
                      refine x_abs (fun z44 hz44 => ?_)
                      exact RET z44 _ _ _ _ _ ⟨hI, fr.trans (fr.trans (fr.trans (fr.rf) hf18 rfl rfl) hf24 rfl rfl) hj28 rfl rfl, (CI.fr (CI.fr hc19 hf24 rfl rfl) hj28 rfl rfl), (WI.fr (WI.fr hc20 hf24 rfl rfl) hj28 rfl rfl), by omega⟩ hP hS dX12_lent_200
                    · have c43 : z21 = (-1) := (i_eq hw23 ⟨by decide, by decide⟩).mp c43
                      refine lv_iconst (v := iI (-1)) hx hb dX12_lent_191 (by decide +kernel) ?_
                      refine lv_goto (tgt := 200) hx hb dX12_lent_192 (by decide) ?_
                      exact RET (-1) _ _ _ _ _ ⟨hI, fr.trans (fr.trans (fr.trans (fr.rf) hf18 rfl rfl) hf24 rfl rfl) hj28 rfl rfl, (CI.fr (CI.fr hc19 hf24 rfl rfl) hj28 rfl rfl), (WI.fr (WI.fr hc20 hf24 rfl rfl) hj28 rfl rfl), by omega⟩ hP hS dX12_lent_200
                  · have c42 : x3 = 1 := (i_eq hx3 ⟨by decide, by decide⟩).mp c42
                    refine lv_iload hx hb dX12_lent_180 (lv_at hl 1 rfl) ?_
                    refine lv_goto (tgt := 200) hx hb dX12_lent_182 (by decide) ?_
                    exact RET z26 _ _ _ _ _ ⟨hI, fr.trans (fr.trans (fr.trans (fr.rf) hf18 rfl rfl) hf24 rfl rfl) hj28 rfl rfl, (CI.fr (CI.fr hc19 hf24 rfl rfl) hj28 rfl rfl), (WI.fr (WI.fr hc20 hf24 rfl rfl) hj28 rfl rfl), by omega⟩ hP hS dX12_lent_200
                · have c41 : x3 = 0 := (i_eq0 hx3).mp c41
                  refine lv_iload hx hb dX12_lent_170 (lv_at hl 2 rfl) ?_
                  refine lv_goto (tgt := 200) hx hb dX12_lent_172 (by decide) ?_
                  exact RET z27 _ _ _ _ _ ⟨hI, fr.trans (fr.trans (fr.trans (fr.rf) hf18 rfl rfl) hf24 rfl rfl) hj28 rfl rfl, (CI.fr (CI.fr hc19 hf24 rfl rfl) hj28 rfl rfl), (WI.fr (WI.fr hc20 hf24 rfl rfl) hj28 rfl rfl), by omega⟩ hP hS dX12_lent_200
              · have c40 : z27 = (-1) := (i_eq f37 ⟨by decide, by decide⟩).mp c40
                refine lv_iconst (v := iI (-1)) hx hb dX12_lent_164 (by decide +kernel) ?_
                exact RET (-1) _ _ _ _ _ ⟨hI, fr.trans (fr.trans (fr.trans (fr.rf) hf18 rfl rfl) hf24 rfl rfl) hj28 rfl rfl, (CI.fr (CI.fr hc19 hf24 rfl rfl) hj28 rfl rfl), (WI.fr (WI.fr hc20 hf24 rfl rfl) hj28 rfl rfl), by omega⟩ hP hS dX12_lent_165
            · have c39 : ¬ z38 ≤ z25 := mt (i_le (rb rz38 (by decide) (by decide)) (rb f35 (by decide) (by decide))).mpr c39
              refine lv_iload hx hb dX12_lent_72 (lv_at hl 4 rfl) ?_
              refine lv_iload hx hb dX12_lent_74 (lv_at hl 0 rfl) ?_
              refine lv_ishr hx hb dX12_lent_76 ?_
              refine x_abs (fun z45 hz45 => ?_)
              refine lv_iconst (v := iI 1) hx hb dX12_lent_77 (by decide +kernel) ?_
              refine lv_iand hx hb dX12_lent_78 ?_
              refine x_and (b := 1) (by omega) (fun z46 hz46 => ?_)
              refine lv_iconst (v := iI 1) hx hb dX12_lent_79 (by decide +kernel) ?_
              have J152_48 : ∀ (z70 z71 : Int) (A73 : St) (H : Heap) (locs : List Loc) (ls : Array Slot), (-2147483648 ≤ z70 ∧ z70 ≤ 2147483647) → (-2147483648 ≤ z71 ∧ z71 ≤ 2147483647) → IM A73 → fr [42, 43, 47, 48, 49, 50] [66, 67, 69, 70, 71, 73] A29 A73 → va_P (dC, dI) vwCl (WM cI cJ cZ q A73) H → va_S AS s.heap H locs → lv_has ls 10 [(8, .int (iI z25)), (7, .int (iI z70)), (6, .int (iI z71)), (5, .int (iI z21)), (4, .int (iI z13)), (0, .ref (q 0)), (1, .int (iI x1)), (2, .int (iI x2)), (3, .int (iI x3))] → W p l e (headSpec ws_mb_X12_lent ({ frames := 6, cells := 0, slots := 0, locals := 148 } : Room)).room s m [.ref (q 0), .int (iI x1), .int (iI x2), .int (iI x3)].toArray below meth c H locs 0 0 Q (F0 m 152 ls []) := by
                intro z70 z71 A73 H locs ls f74 f75 hI hj72 hP hS hl
                refine lv_iinc (v := iI (z25 + 1)) (lv' := [(8, .int (iI (z25 + 1))), (7, .int (iI z70)), (6, .int (iI z71)), (5, .int (iI z21)), (4, .int (iI z13)), (0, .ref (q 0)), (1, .int (iI x1)), (2, .int (iI x2)), (3, .int (iI x3))]) hx hb dX12_lent_152 hl (k := 0) rfl (i_inc (by omega)) (by decide) rfl (fun ls hl => ?_)
                refine lv_goto (tgt := 58) hx hb dX12_lent_155 (by decide) ?_
                exact ih32 _ (by omega) (z25 + 1) z70 z71 _ _ _ _ (by omega) (by omega) (by omega) (by omega) rfl hI (fr.trans (fr.trans (fr.rf) hj28 rfl rfl) hj72 rfl rfl) hP hS (lv_sub hl [0, 1, 2, 3, 4, 5, 6, 7, 8] rfl)
              refine lv_icmp_eq (tgt := 152) hx hb dX12_lent_80 (by decide) (fun c47 => ?_) (fun c47 => ?_)
              · have c47 : z46 = 1 := (i_eq (by omega) ⟨by decide, by decide⟩).mp c47
                exact J152_48 z26 z27 _ _ _ _ (by omega) (by omega) hI (fr.rf) hP hS (lv_sub hl [0, 1, 2, 3, 4, 5, 6, 7, 8] rfl)
              · have c47 : ¬ z46 = 1 := mt (i_eq (by omega) ⟨by decide, by decide⟩).mpr c47
                refine lv_aload_n hx hb dX12_lent_83 rfl (lv_at hl 5 rfl) ?_
                refine va_get (D := (dC, dI)) (ci := 12) (v := .ref (q 13)) (C := RX12) (T := TX12) (N := 85) hx hb hts hiX12 hown hK hP 0 wm0 rfl 24 (by decide) (hts _ (List.mem_cons_of_mem _ (wl_in_2 _ (List.mem_of_getElem? (i := 58) rfl)))) (fun _ h9 => h9) rfl dX12_lent_84 ?_
                refine lv_aload_n hx hb dX12_lent_87 rfl (lv_at hl 5 rfl) ?_
                refine lv_iload hx hb dX12_lent_88 (lv_at hl 0 rfl) ?_
                refine x_calli (As := [.int (iI z25)]) (rest := [.ref (q 13)]) ⟨hx, hb, hml, hown, hts⟩ (mc_X12_key4 l dC dI cB cI cJ cZ cQ q _ z25 hI (by omega)) (cwV 1 hts (goodV (wl_in_4 _ (List.mem_of_getElem? (i := 44) rfl)) (wl_in_4 _ (List.mem_of_getElem? (i := 45) rfl)) (wl_in_4 _ (List.mem_of_getElem? (i := 46) rfl)) (wl_in_0 _ (List.mem_of_getElem? (i := 8) rfl)) (wl_in_4 _ (List.mem_of_getElem? (i := 41) rfl))) rfl rfl rfl (by decide +kernel) ⟨Nat.le_of_ble_eq_true rfl, Nat.le_of_ble_eq_true rfl⟩) hK hDD hA0 hP hS 0 12 wm0 rfl rfl hl.1 (Nat.le_of_ble_eq_true rfl) dX12_lent_90 (fun z49 A50 H locs hw51 hP hS => ?_)
                obtain ⟨rfl, hw51⟩ := hw51
                refine tp_i (y := iI (4 * (A 0 12) + z25)) (congrArg iI (show z49 = 4 * (A 0 12) + z25 by omega)) ?_
                clear hw51 z49
                have a_A16_13 : A16 13 = A 13 := (hf18.1 13 (by decide) rfl)
                have a_A22_13 : A22 13 = A 13 := (hf24.1 13 (by decide) rfl).trans a_A16_13
                have a_A29_13 : A29 13 = A 13 := (hj28.1 13 (by decide) rfl).trans a_A22_13
                refine x_iald hx hb hK hP 13 1 wm13 rfl (by omega) (by decide) dX12_lent_93 (fun z52 hz52 => ?_)
                have rz52 : (0 : Int) ≤ z52 ∧ z52 ≤ 40 := by rw [hz52]; exact hI 13 _
                have hz52 : z52 = A 13 (4 * (A 0 12) + z25).toNat := hz52.trans (congrFun a_A29_13 _)
                refine lv_bipush (v := iI 40) hx hb dX12_lent_94 (by decide +kernel) ?_
                refine lv_icmp_ne (tgt := 102) hx hb dX12_lent_96 (by decide) (fun c53 => ?_) (fun c53 => ?_)
                · have c53 : ¬ z52 = 40 := mt (i_eq (rb rz52 (by decide) (by decide)) ⟨by decide, by decide⟩).mpr c53
                  refine lv_aload_n hx hb dX12_lent_102 rfl (lv_at hl 5 rfl) ?_
                  refine lv_iload_n hx hb dX12_lent_103 rfl (lv_at hl 6 rfl) ?_
                  refine lv_iload hx hb dX12_lent_104 (lv_at hl 4 rfl) ?_
                  refine lv_iconst (v := iI 1) hx hb dX12_lent_106 (by decide +kernel) ?_
                  refine lv_iload hx hb dX12_lent_107 (lv_at hl 0 rfl) ?_
                  refine x_shl1 (M := 3) (t := 8) hx hb dX12_lent_109 (by omega) (by decide) (by decide) (fun z54 hz54 => ?_)
                  refine lv_ior hx hb dX12_lent_110 ?_
                  refine x_abs (fun z55 hz55 => ?_)
                  refine lv_iconst (v := iI 0) hx hb dX12_lent_111 (by decide +kernel) ?_
                  refine x_callv (As := [.int (iI x1), .int (iI z55), .int (iI 0)]) (rest := []) ⟨hx, hb, hml, hown, hts⟩ (mb_X12_searches l dC dI cB cI cJ cZ cQ q _ x1 z55 0 hI (by omega) (by omega) ⟨by decide, by decide⟩ (CI.fr (CI.fr hc19 hf24 rfl rfl) hj28 rfl rfl) (WI.fr (WI.fr hc20 hf24 rfl rfl) hj28 rfl rfl)) (cwV 3 hts (goodV (wl_in_7 _ (List.mem_of_getElem? (i := 19) rfl)) (wl_in_7 _ (List.mem_of_getElem? (i := 20) rfl)) (wl_in_7 _ (List.mem_of_getElem? (i := 21) rfl)) (wl_in_0 _ (List.mem_of_getElem? (i := 8) rfl)) (wl_in_7 _ (List.mem_of_getElem? (i := 0) rfl))) rfl rfl rfl (by decide +kernel) ⟨Nat.le_of_ble_eq_true rfl, Nat.le_of_ble_eq_true rfl⟩) hK hDD hA0 hP hS 0 12 wm0 rfl rfl hl.1 (Nat.le_of_ble_eq_true rfl) dX12_lent_112 (fun A56 H locs hw57 hP hS => ?_)
                  obtain ⟨hI, hf58, hw57⟩ := hw57
                  obtain ⟨hc59, hw57⟩ := hw57
                  obtain ⟨hc60, hw57⟩ := hw57
                  refine lv_aload_n hx hb dX12_lent_115 rfl (lv_at hl 5 rfl) ?_
                  refine lv_iload_n hx hb dX12_lent_116 rfl (lv_at hl 7 rfl) ?_
                  refine x_calli (As := [.int (iI x2)]) (rest := []) ⟨hx, hb, hml, hown, hts⟩ (mc_X12_actsTo l dC dI cB cI cJ cZ cQ q _ x2 hI hx2) (cwV 1 hts (goodV (wl_in_7 _ (List.mem_of_getElem? (i := 30) rfl)) (wl_in_7 _ (List.mem_of_getElem? (i := 31) rfl)) (wl_in_7 _ (List.mem_of_getElem? (i := 32) rfl)) (wl_in_0 _ (List.mem_of_getElem? (i := 8) rfl)) (wl_in_7 _ (List.mem_of_getElem? (i := 17) rfl))) rfl rfl rfl (by decide +kernel) ⟨Nat.le_of_ble_eq_true rfl, Nat.le_of_ble_eq_true rfl⟩) hK hDD hA0 hP hS 0 12 wm0 rfl rfl hl.1 (Nat.le_of_ble_eq_true rfl) dX12_lent_117 (fun z61 A62 H locs hw63 hP hS => ?_)
                  obtain ⟨hI, hf64, hw63⟩ := hw63
                  refine lv_istore (lv' := [(9, .int (iI z61)), (8, .int (iI z25)), (7, .int (iI z26)), (6, .int (iI z27)), (5, .int (iI z21)), (4, .int (iI z13)), (0, .ref (q 0)), (1, .int (iI x1)), (2, .int (iI x2)), (3, .int (iI x3))]) hx hb dX12_lent_120 hl (by decide) rfl (fun ls hl => ?_)
                  refine lv_iload hx hb dX12_lent_122 (lv_at hl 0 rfl) ?_
                  refine lv_iconst (v := iI (-1)) hx hb dX12_lent_124 (by decide +kernel) ?_
                  refine lv_icmp_eq (tgt := 152) hx hb dX12_lent_125 (by decide) (fun c65 => ?_) (fun c65 => ?_)
                  · have c65 : z61 = (-1) := (i_eq hw63 ⟨by decide, by decide⟩).mp c65
                    exact J152_48 z26 z27 _ _ _ _ (by omega) (by omega) hI (fr.trans (fr.trans (fr.rf) hf58 rfl rfl) hf64 rfl rfl) hP hS (lv_sub hl [1, 2, 3, 4, 5, 6, 7, 8, 9] rfl)
                  · have c65 : ¬ z61 = (-1) := mt (i_eq hw63 ⟨by decide, by decide⟩).mpr c65
                    refine lv_iload hx hb dX12_lent_128 (lv_at hl 3 rfl) ?_
                    refine lv_iconst (v := iI (-1)) hx hb dX12_lent_130 (by decide +kernel) ?_
                    have J144_67 : ∀ (H : Heap) (locs : List Loc) (ls : Array Slot), va_P (dC, dI) vwCl (WM cI cJ cZ q A62) H → va_S AS s.heap H locs → lv_has ls 10 [(9, .int (iI z61)), (8, .int (iI z25)), (7, .int (iI z26)), (6, .int (iI z27)), (5, .int (iI z21)), (4, .int (iI z13)), (0, .ref (q 0)), (1, .int (iI x1)), (2, .int (iI x2)), (3, .int (iI x3))] → W p l e (headSpec ws_mb_X12_lent ({ frames := 6, cells := 0, slots := 0, locals := 148 } : Room)).room s m [.ref (q 0), .int (iI x1), .int (iI x2), .int (iI x3)].toArray below meth c H locs 0 0 Q (F0 m 144 ls []) := by
                      intro H locs ls hP hS hl
                      refine lv_iload hx hb dX12_lent_144 (lv_at hl 1 rfl) ?_
                      refine lv_istore (lv' := [(6, .int (iI z25)), (9, .int (iI z61)), (8, .int (iI z25)), (7, .int (iI z26)), (5, .int (iI z21)), (4, .int (iI z13)), (0, .ref (q 0)), (1, .int (iI x1)), (2, .int (iI x2)), (3, .int (iI x3))]) hx hb dX12_lent_146 hl (by decide) rfl (fun ls hl => ?_)
                      refine lv_iload hx hb dX12_lent_148 (lv_at hl 1 rfl) ?_
                      refine lv_istore (lv' := [(7, .int (iI z61)), (6, .int (iI z25)), (9, .int (iI z61)), (8, .int (iI z25)), (5, .int (iI z21)), (4, .int (iI z13)), (0, .ref (q 0)), (1, .int (iI x1)), (2, .int (iI x2)), (3, .int (iI x3))]) hx hb dX12_lent_150 hl (by decide) rfl (fun ls hl => ?_)
                      exact J152_48 z61 z25 _ _ _ _ (by omega) (by omega) hI (fr.trans (fr.trans (fr.rf) hf58 rfl rfl) hf64 rfl rfl) hP hS (lv_sub hl [3, 0, 1, 4, 5, 6, 7, 8, 9] rfl)
                    refine lv_icmp_eq (tgt := 144) hx hb dX12_lent_131 (by decide) (fun c66 => ?_) (fun c66 => ?_)
                    · have c66 : z27 = (-1) := (i_eq f37 ⟨by decide, by decide⟩).mp c66
                      exact J144_67 _ _ _ hP hS (lv_sub hl [0, 1, 2, 3, 4, 5, 6, 7, 8, 9] rfl)
                    · have c66 : ¬ z27 = (-1) := mt (i_eq f37 ⟨by decide, by decide⟩).mpr c66
                      refine lv_iload hx hb dX12_lent_134 (lv_at hl 0 rfl) ?_
                      refine lv_iload hx hb dX12_lent_136 (lv_at hl 2 rfl) ?_
                      refine lv_icmp_lt (tgt := 144) hx hb dX12_lent_138 (by decide) (fun c68 => ?_) (fun c68 => ?_)
                      · have c68 : z61 < z26 := (i_lt hw63 f36).mp c68
                        exact J144_67 _ _ _ hP hS (lv_sub hl [0, 1, 2, 3, 4, 5, 6, 7, 8, 9] rfl)
                      · have c68 : ¬ z61 < z26 := mt (i_lt hw63 f36).mpr c68
                        refine lv_goto (tgt := 152) hx hb dX12_lent_141 (by decide) ?_
                        exact J152_48 z26 z27 _ _ _ _ (by omega) (by omega) hI (fr.trans (fr.trans (fr.rf) hf58 rfl rfl) hf64 rfl rfl) hP hS (lv_sub hl [1, 2, 3, 4, 5, 6, 7, 8, 9] rfl)
                · have c53 : z52 = 40 := (i_eq (rb rz52 (by decide) (by decide)) ⟨by decide, by decide⟩).mp c53
                  refine lv_goto (tgt := 152) hx hb dX12_lent_99 (by decide) ?_
                  exact J152_48 z26 z27 _ _ _ _ (by omega) (by omega) hI (fr.rf) hP hS (lv_sub hl [0, 1, 2, 3, 4, 5, 6, 7, 8] rfl)
        exact L58_31 _ 0 (-1) (-1) _ _ _ _ (by omega) (by omega) (by omega) (by omega) rfl hI (fr.rf) hP hS (lv_sub hl [0, 1, 2, 3, 4, 5, 6, 7, 8] rfl)
      · have c12 : z9 = 0 := (i_eq0 (rb rz9 (by decide) (by decide))).mp c12
        have hw11b := mt hw11.2.mpr (by omega)
        clear hw11
        refine lv_iconst (v := iI (-1)) hx hb dX12_lent_25 (by decide +kernel) ?_
        exact RET (-1) _ _ _ _ _ ⟨hI, fr.rf, hcCI, hcWI, by omega⟩ hP hS dX12_lent_26

def ws_mb_X12_isLockedIn : List Cond := .code yX12_isLockedIn cX12_isLockedIn 4 (some .boolean) :: WX
set_option maxHeartbeats 4000000 in
set_option maxRecDepth 100000 in
theorem mb_X12_isLockedIn (l : Launch) (dC : Nat → ClassId) (dI : Nat → Nat → Nat) (cB cI cJ cZ cQ : ClassId) (q : Nat → Nat) (A : St) (x1 : Int) (hI : IM A) (hx1 : (0 : Int) ≤ x1 ∧ x1 ≤ 2) (hcCI : CI A) (hcWI : WI A) : XMi l yX12_isLockedIn ws_mb_X12_isLockedIn ({ frames := 7, cells := 0, slots := 0, locals := 171 } : Room) (dC, dI) (tyA cB cI cJ cZ cQ) (WM cI cJ cZ q) A [.ref (q 0), .int (iI x1)] (fun z u => IM u ∧ fr [42, 43, 47, 48, 49, 50] [66, 67, 69, 70, 71, 73] A u ∧ CI u ∧ WI u ∧ (0 ≤ z ∧ z ≤ 1)) := by
  refine x_metz (cc := cX12_isLockedIn) (maxL := 4) WM_adr (by decide +kernel) rfl (Nat.le_of_ble_eq_true rfl) (fun z u h => h.2.2.2.2) (fun p e s m below meth c Q AS ls hx hb hml hown hts hK hDD hA0 hP hS hl RET => ?_)
  have hown : s.vm.findClass RX12 = some m.cls := hown
  have hl : lv_has ls 4 [(0, .ref (q 0)), (1, .int (iI x1))] := hl
  have hiX12 : ∀ w ∈ u_ws RX12 TX12 85, w ∈ ws_mb_X12_isLockedIn := fun w h => List.mem_cons_of_mem _ (wx_lay w h)
  obtain ⟨H, hHe⟩ : ∃ H : Heap, H = s.heap := ⟨_, rfl⟩
  rw [← hHe] at hP
  have hS : va_S AS s.heap H [] := by rw [hHe]; exact hS
  suffices hgo : ∀ locs : List Loc, va_S AS s.heap H locs → W p l e (headSpec ws_mb_X12_isLockedIn ({ frames := 7, cells := 0, slots := 0, locals := 171 } : Room)).room s m [.ref (q 0), .int (iI x1)].toArray below meth c H locs 0 0 Q (F0 m 0 ls []) by
    have := hgo [] hS
    rw [hHe] at this
    exact this
  clear hS hHe
  intro locs hS
  refine lv_iconst (v := iI 0) hx hb dX12_isLockedIn_0 (by decide +kernel) ?_
  refine lv_istore_n (lv' := [(2, .int (iI 0)), (0, .ref (q 0)), (1, .int (iI x1))]) hx hb dX12_isLockedIn_1 rfl hl (by decide) rfl (fun ls hl => ?_)
  refine lv_iconst (v := iI 0) hx hb dX12_isLockedIn_2 (by decide +kernel) ?_
  refine lv_istore_n (lv' := [(3, .int (iI 0)), (2, .int (iI 0)), (0, .ref (q 0)), (1, .int (iI x1))]) hx hb dX12_isLockedIn_3 rfl hl (by decide) rfl (fun ls hl => ?_)
  have L4_5 : ∀ (n7 : Nat) (z1 z2 : Int) (H : Heap) (locs : List Loc) (ls : Array Slot), (0 ≤ z1) → (0 ≤ z1 ∧ z1 ≤ 2147483647) → (-2147483648 ≤ z2 ∧ z2 ≤ 2147483647) → ((A 4 ((A 0 12)).toNat - z1 + 1).toNat = n7) → va_P (dC, dI) vwCl (WM cI cJ cZ q A) H → va_S AS s.heap H locs → lv_has ls 4 [(3, .int (iI z1)), (2, .int (iI z2)), (0, .ref (q 0)), (1, .int (iI x1))] → W p l e (headSpec ws_mb_X12_isLockedIn ({ frames := 7, cells := 0, slots := 0, locals := 171 } : Room)).room s m [.ref (q 0), .int (iI x1)].toArray below meth c H locs 0 0 Q (F0 m 4 ls []) := by
    intro n7
    induction n7 using Nat.strongRecOn with
    | ind n7 ih6 =>
      intro z1 z2 H locs ls f8 f9 f10 hn7 hP hS hl
      refine lv_iload_n hx hb dX12_isLockedIn_4 rfl (lv_at hl 0 rfl) ?_
      refine lv_aload_n hx hb dX12_isLockedIn_5 rfl (lv_at hl 2 rfl) ?_
      refine va_get (D := (dC, dI)) (ci := 12) (v := .ref (q 4)) (C := RX12) (T := TX12) (N := 85) hx hb hts hiX12 hown hK hP 0 wm0 rfl 15 (by decide) (hts _ (List.mem_cons_of_mem _ (wl_in_1 _ (List.mem_of_getElem? (i := 13) rfl)))) (fun _ h9 => h9) rfl dX12_isLockedIn_6 ?_
      refine lv_aload_n hx hb dX12_isLockedIn_9 rfl (lv_at hl 2 rfl) ?_
      refine va_get (D := (dC, dI)) (ci := 12) (v := .int (iI (A 0 12))) (C := RX12) (T := TX12) (N := 85) hx hb hts hiX12 hown hK hP 0 wm0 rfl 12 (by decide) (hts _ (List.mem_cons_of_mem _ (wl_in_4 _ (List.mem_of_getElem? (i := 14) rfl)))) (fun _ h9 => h9) rfl dX12_isLockedIn_10 ?_
      have r_A_0_12 : (0 : Int) ≤ (A 0 12) ∧ (A 0 12) ≤ 1 := hI 0 12
      refine x_iald hx hb hK hP 4 1 wm4 rfl (by omega) (by decide) dX12_isLockedIn_13 (fun z11 hz11 => ?_)
      have rz11 : (0 : Int) ≤ z11 ∧ z11 ≤ 10 := by rw [hz11]; exact hI 4 _
      have hz11 : z11 = A 4 ((A 0 12)).toNat := hz11
      refine lv_icmp_ge (tgt := 59) hx hb dX12_isLockedIn_14 (by decide) (fun c12 => ?_) (fun c12 => ?_)
      · have c12 : z11 ≤ z1 := (i_le (rb rz11 (by decide) (by decide)) (rb f9 (by decide) (by decide))).mp c12
        refine lv_iload_n hx hb dX12_isLockedIn_59 rfl (lv_at hl 1 rfl) ?_
        refine lv_if_eq (tgt := 79) hx hb dX12_isLockedIn_60 (by decide) (fun c13 => ?_) (fun c13 => ?_)
        · have c13 : z2 = 0 := (i_eq0 f10).mp c13
          refine lv_iconst (v := iI 0) hx hb dX12_isLockedIn_79 (by decide +kernel) ?_
          exact RET 0 _ _ _ _ _ ⟨hI, fr.rf, hcCI, hcWI, by omega⟩ hP hS dX12_isLockedIn_80
        · have c13 : ¬ z2 = 0 := mt (i_eq0 f10).mpr c13
          refine lv_aload_n hx hb dX12_isLockedIn_63 rfl (lv_at hl 2 rfl) ?_
          refine lv_iload_n hx hb dX12_isLockedIn_64 rfl (lv_at hl 3 rfl) ?_
          refine x_calli (As := [.int (iI x1)]) (rest := []) ⟨hx, hb, hml, hown, hts⟩ (mb_X12_placesOf l dC dI cB cI cJ cZ cQ q _ x1 hI hx1 hcCI hcWI) (cwV 1 hts (goodV (wl_in_7 _ (List.mem_of_getElem? (i := 23) rfl)) (wl_in_7 _ (List.mem_of_getElem? (i := 24) rfl)) (wl_in_7 _ (List.mem_of_getElem? (i := 25) rfl)) (wl_in_0 _ (List.mem_of_getElem? (i := 8) rfl)) (wl_in_7 _ (List.mem_of_getElem? (i := 18) rfl))) rfl rfl rfl (by decide +kernel) ⟨Nat.le_of_ble_eq_true rfl, Nat.le_of_ble_eq_true rfl⟩) hK hDD hA0 hP hS 0 12 wm0 rfl rfl hl.1 (Nat.le_of_ble_eq_true rfl) dX12_isLockedIn_65 (fun z14 A15 H locs hw16 hP hS => ?_)
          obtain ⟨hI, hf17, hw16⟩ := hw16
          obtain ⟨hc18, hw16⟩ := hw16
          obtain ⟨hc19, hw16⟩ := hw16
          refine x_callSi (As := [.int (iI z14)]) (rest := []) ⟨hx, hb, hml, hown, hts⟩ (mc_X12_bitsOf l dC dI cB cI cJ cZ cQ q _ z14 hI hw16) (va_cwS 1 hts (goodS (wl_in_5 _ (List.mem_of_getElem? (i := 44) rfl)) (wl_in_5 _ (List.mem_of_getElem? (i := 45) rfl)) (wl_in_0 _ (List.mem_of_getElem? (i := 8) rfl)) (wl_in_5 _ (List.mem_of_getElem? (i := 27) rfl))) rfl rfl rfl (by decide +kernel) ⟨Nat.le_of_ble_eq_true rfl, Nat.le_of_ble_eq_true rfl⟩) hK hDD hA0 hP hS rfl hl.1 (Nat.le_of_ble_eq_true rfl) dX12_isLockedIn_68 (fun z20 A21 H locs hw22 hP hS => ?_)
          obtain ⟨rfl, hw22⟩ := hw22
          refine lv_iconst (v := iI 1) hx hb dX12_isLockedIn_71 (by decide +kernel) ?_
          refine lv_icmp_ne (tgt := 79) hx hb dX12_isLockedIn_72 (by decide) (fun c23 => ?_) (fun c23 => ?_)
          · have c23 : ¬ z20 = 1 := mt (i_eq hw22 ⟨by decide, by decide⟩).mpr c23
            refine lv_iconst (v := iI 0) hx hb dX12_isLockedIn_79 (by decide +kernel) ?_
            exact RET 0 _ _ _ _ _ ⟨hI, fr.trans (fr.rf) hf17 rfl rfl, hc18, hc19, by omega⟩ hP hS dX12_isLockedIn_80
          · have c23 : z20 = 1 := (i_eq hw22 ⟨by decide, by decide⟩).mp c23
            refine lv_iconst (v := iI 1) hx hb dX12_isLockedIn_75 (by decide +kernel) ?_
            refine lv_goto (tgt := 80) hx hb dX12_isLockedIn_76 (by decide) ?_
            exact RET 1 _ _ _ _ _ ⟨hI, fr.trans (fr.rf) hf17 rfl rfl, hc18, hc19, by omega⟩ hP hS dX12_isLockedIn_80
      · have c12 : ¬ z11 ≤ z1 := mt (i_le (rb rz11 (by decide) (by decide)) (rb f9 (by decide) (by decide))).mpr c12
        refine lv_iload_n hx hb dX12_isLockedIn_17 rfl (lv_at hl 1 rfl) ?_
        have J52_26 : ∀ (z42 : Int) (H : Heap) (locs : List Loc) (ls : Array Slot), (0 ≤ z42 ∧ z42 ≤ 1) → ((z42 = 0 ∧ z2 = 0) ∨ (z42 = 1)) → va_P (dC, dI) vwCl (WM cI cJ cZ q A) H → va_S AS s.heap H locs → lv_has ls 4 [(3, .int (iI z1)), (2, .int (iI z2)), (0, .ref (q 0)), (1, .int (iI x1))] → W p l e (headSpec ws_mb_X12_isLockedIn ({ frames := 7, cells := 0, slots := 0, locals := 171 } : Room)).room s m [.ref (q 0), .int (iI x1)].toArray below meth c H locs 0 0 Q (F0 m 52 ls [.int (iI z42)]) := by
          intro z42 H locs ls f44 f45 hP hS hl
          refine lv_istore_n (lv' := [(2, .int (iI z42)), (3, .int (iI z1)), (0, .ref (q 0)), (1, .int (iI x1))]) hx hb dX12_isLockedIn_52 rfl hl (by decide) rfl (fun ls hl => ?_)
          refine lv_iinc (v := iI (z1 + 1)) (lv' := [(3, .int (iI (z1 + 1))), (2, .int (iI z42)), (0, .ref (q 0)), (1, .int (iI x1))]) hx hb dX12_isLockedIn_53 hl (k := 1) rfl (i_inc (by omega)) (by decide) rfl (fun ls hl => ?_)
          refine lv_goto (tgt := 4) hx hb dX12_isLockedIn_56 (by decide) ?_
          exact ih6 _ (by omega) (z1 + 1) z42 _ _ _ (by omega) (by omega) (by omega) rfl hP hS (lv_sub hl [0, 1, 2, 3] rfl)
        have J47_25 : ∀ (H : Heap) (locs : List Loc) (ls : Array Slot), va_P (dC, dI) vwCl (WM cI cJ cZ q A) H → va_S AS s.heap H locs → lv_has ls 4 [(3, .int (iI z1)), (2, .int (iI z2)), (0, .ref (q 0)), (1, .int (iI x1))] → W p l e (headSpec ws_mb_X12_isLockedIn ({ frames := 7, cells := 0, slots := 0, locals := 171 } : Room)).room s m [.ref (q 0), .int (iI x1)].toArray below meth c H locs 0 0 Q (F0 m 47 ls []) := by
          intro H locs ls hP hS hl
          refine lv_iconst (v := iI 1) hx hb dX12_isLockedIn_47 (by decide +kernel) ?_
          refine lv_goto (tgt := 52) hx hb dX12_isLockedIn_48 (by decide) ?_
          exact J52_26 1 _ _ _ (by omega) (by omega) hP hS (lv_sub hl [0, 1, 2, 3] rfl)
        refine lv_if_ne (tgt := 47) hx hb dX12_isLockedIn_18 (by decide) (fun c24 => ?_) (fun c24 => ?_)
        · have c24 : ¬ z2 = 0 := mt (i_eq0 f10).mpr c24
          exact J47_25 _ _ _ hP hS (lv_sub hl [0, 1, 2, 3] rfl)
        · have c24 : z2 = 0 := (i_eq0 f10).mp c24
          refine lv_aload_n hx hb dX12_isLockedIn_21 rfl (lv_at hl 2 rfl) ?_
          refine va_get (D := (dC, dI)) (ci := 12) (v := .ref (q 8)) (C := RX12) (T := TX12) (N := 85) hx hb hts hiX12 hown hK hP 0 wm0 rfl 19 (by decide) (hts _ (List.mem_cons_of_mem _ (wl_in_2 _ (List.mem_of_getElem? (i := 41) rfl)))) (fun _ h9 => h9) rfl dX12_isLockedIn_22 ?_
          refine lv_aload_n hx hb dX12_isLockedIn_25 rfl (lv_at hl 2 rfl) ?_
          refine lv_iload_n hx hb dX12_isLockedIn_26 rfl (lv_at hl 0 rfl) ?_
          refine x_calli (As := [.int (iI z1)]) (rest := [.ref (q 8)]) ⟨hx, hb, hml, hown, hts⟩ (mc_X12_door10 l dC dI cB cI cJ cZ cQ q _ z1 hI (by omega)) (cwV 1 hts (goodV (wl_in_4 _ (List.mem_of_getElem? (i := 49) rfl)) (wl_in_4 _ (List.mem_of_getElem? (i := 50) rfl)) (wl_in_4 _ (List.mem_of_getElem? (i := 51) rfl)) (wl_in_0 _ (List.mem_of_getElem? (i := 8) rfl)) (wl_in_4 _ (List.mem_of_getElem? (i := 42) rfl))) rfl rfl rfl (by decide +kernel) ⟨Nat.le_of_ble_eq_true rfl, Nat.le_of_ble_eq_true rfl⟩) hK hDD hA0 hP hS 0 12 wm0 rfl rfl hl.1 (Nat.le_of_ble_eq_true rfl) dX12_isLockedIn_27 (fun z27 A28 H locs hw29 hP hS => ?_)
          obtain ⟨rfl, hw29⟩ := hw29
          refine tp_i (y := iI (10 * (A 0 12) + z1)) (congrArg iI (show z27 = 10 * (A 0 12) + z1 by omega)) ?_
          clear hw29 z27
          refine x_zald hx hb hK hP 8 3 wm8 rfl (by omega) (by decide) dX12_isLockedIn_30 (fun z30 hz30 => ?_)
          have rz30 : (0 : Int) ≤ z30 ∧ z30 ≤ 1 := by rw [hz30]; exact hI 8 _
          have hz30 : z30 = A 8 (10 * (A 0 12) + z1).toNat := hz30
          have J51_32 : ∀ (H : Heap) (locs : List Loc) (ls : Array Slot), va_P (dC, dI) vwCl (WM cI cJ cZ q A) H → va_S AS s.heap H locs → lv_has ls 4 [(3, .int (iI z1)), (2, .int (iI z2)), (0, .ref (q 0)), (1, .int (iI x1))] → W p l e (headSpec ws_mb_X12_isLockedIn ({ frames := 7, cells := 0, slots := 0, locals := 171 } : Room)).room s m [.ref (q 0), .int (iI x1)].toArray below meth c H locs 0 0 Q (F0 m 51 ls []) := by
            intro H locs ls hP hS hl
            refine lv_iconst (v := iI 0) hx hb dX12_isLockedIn_51 (by decide +kernel) ?_
            exact J52_26 0 _ _ _ (by omega) (by omega) hP hS (lv_sub hl [0, 1, 2, 3] rfl)
          refine lv_if_ne (tgt := 51) hx hb dX12_isLockedIn_31 (by decide) (fun c31 => ?_) (fun c31 => ?_)
          · have c31 : ¬ z30 = 0 := mt (i_eq0 (rb rz30 (by decide) (by decide))).mpr c31
            exact J51_32 _ _ _ hP hS (lv_sub hl [0, 1, 2, 3] rfl)
          · have c31 : z30 = 0 := (i_eq0 (rb rz30 (by decide) (by decide))).mp c31
            refine lv_aload_n hx hb dX12_isLockedIn_34 rfl (lv_at hl 2 rfl) ?_
            refine lv_aload_n hx hb dX12_isLockedIn_35 rfl (lv_at hl 2 rfl) ?_
            refine lv_iload_n hx hb dX12_isLockedIn_36 rfl (lv_at hl 3 rfl) ?_
            refine x_calli (As := [.int (iI x1)]) (rest := [.ref (q 0)]) ⟨hx, hb, hml, hown, hts⟩ (mc_X12_placeOf l dC dI cB cI cJ cZ cQ q _ x1 hI hx1) (cwV 1 hts (goodV (wl_in_5 _ (List.mem_of_getElem? (i := 35) rfl)) (wl_in_5 _ (List.mem_of_getElem? (i := 36) rfl)) (wl_in_5 _ (List.mem_of_getElem? (i := 37) rfl)) (wl_in_0 _ (List.mem_of_getElem? (i := 8) rfl)) (wl_in_5 _ (List.mem_of_getElem? (i := 25) rfl))) rfl rfl rfl (by decide +kernel) ⟨Nat.le_of_ble_eq_true rfl, Nat.le_of_ble_eq_true rfl⟩) hK hDD hA0 hP hS 0 12 wm0 rfl rfl hl.1 (Nat.le_of_ble_eq_true rfl) dX12_isLockedIn_37 (fun z33 A34 H locs hw35 hP hS => ?_)
            obtain ⟨rfl, hw35⟩ := hw35
            refine lv_iload_n hx hb dX12_isLockedIn_40 rfl (lv_at hl 0 rfl) ?_
            refine x_calli (As := [.int (iI z33), .int (iI z1)]) (rest := []) ⟨hx, hb, hml, hown, hts⟩ (mc_X12_isAt l dC dI cB cI cJ cZ cQ q _ z33 z1 hI (rb hw35 (by decide) (by decide)) (by omega)) (cwV 2 hts (goodV (wl_in_5 _ (List.mem_of_getElem? (i := 38) rfl)) (wl_in_5 _ (List.mem_of_getElem? (i := 39) rfl)) (wl_in_5 _ (List.mem_of_getElem? (i := 40) rfl)) (wl_in_0 _ (List.mem_of_getElem? (i := 8) rfl)) (wl_in_5 _ (List.mem_of_getElem? (i := 28) rfl))) rfl rfl rfl (by decide +kernel) ⟨Nat.le_of_ble_eq_true rfl, Nat.le_of_ble_eq_true rfl⟩) hK hDD hA0 hP hS 0 12 wm0 rfl rfl hl.1 (Nat.le_of_ble_eq_true rfl) dX12_isLockedIn_41 (fun z36 A37 H locs hw38 hP hS => ?_)
            obtain ⟨rfl, hw38⟩ := hw38
            refine lv_if_eq (tgt := 51) hx hb dX12_isLockedIn_44 (by decide) (fun c39 => ?_) (fun c39 => ?_)
            · have c39 : z36 = 0 := (i_eq0 (rb hw38 (by decide) (by decide))).mp c39
              exact J51_32 _ _ _ hP hS (lv_sub hl [0, 1, 2, 3] rfl)
            · have c39 : ¬ z36 = 0 := mt (i_eq0 (rb hw38 (by decide) (by decide))).mpr c39
              exact J47_25 _ _ _ hP hS (lv_sub hl [0, 1, 2, 3] rfl)
  exact L4_5 _ 0 0 _ _ _ (by omega) (by omega) (by omega) rfl hP hS (lv_sub hl [0, 1, 2, 3] rfl)

def ws_mb_X12_locked : List Cond := .code yX12_locked cX12_locked 3 (some .int) :: WX
set_option maxHeartbeats 4000000 in
set_option maxRecDepth 100000 in
theorem mb_X12_locked (l : Launch) (dC : Nat → ClassId) (dI : Nat → Nat → Nat) (cB cI cJ cZ cQ : ClassId) (q : Nat → Nat) (A : St) (hI : IM A) (hcCI : CI A) (hcWI : WI A) : XMi l yX12_locked ws_mb_X12_locked ({ frames := 8, cells := 0, slots := 0, locals := 194 } : Room) (dC, dI) (tyA cB cI cJ cZ cQ) (WM cI cJ cZ q) A [.ref (q 0)] (fun z u => IM u ∧ fr [42, 43, 47, 48, 49, 50] [66, 67, 69, 70, 71, 73] A u ∧ CI u ∧ WI u ∧ (-2147483648 ≤ z ∧ z ≤ 2147483647)) := by
  refine x_meti (cc := cX12_locked) (maxL := 3) WM_adr (by decide +kernel) rfl (Nat.le_of_ble_eq_true rfl) (fun p e s m below meth c Q AS ls hx hb hml hown hts hK hDD hA0 hP hS hl RET => ?_)
  have hown : s.vm.findClass RX12 = some m.cls := hown
  have hl : lv_has ls 3 [(0, .ref (q 0))] := hl
  have hiX12 : ∀ w ∈ u_ws RX12 TX12 85, w ∈ ws_mb_X12_locked := fun w h => List.mem_cons_of_mem _ (wx_lay w h)
  obtain ⟨H, hHe⟩ : ∃ H : Heap, H = s.heap := ⟨_, rfl⟩
  rw [← hHe] at hP
  have hS : va_S AS s.heap H [] := by rw [hHe]; exact hS
  suffices hgo : ∀ locs : List Loc, va_S AS s.heap H locs → W p l e (headSpec ws_mb_X12_locked ({ frames := 8, cells := 0, slots := 0, locals := 194 } : Room)).room s m [.ref (q 0)].toArray below meth c H locs 0 0 Q (F0 m 0 ls []) by
    have := hgo [] hS
    rw [hHe] at this
    exact this
  clear hS hHe
  intro locs hS
  refine lv_iconst (v := iI 0) hx hb dX12_locked_0 (by decide +kernel) ?_
  refine lv_istore_n (lv' := [(1, .int (iI 0)), (0, .ref (q 0))]) hx hb dX12_locked_1 rfl hl (by decide) rfl (fun ls hl => ?_)
  refine lv_iconst (v := iI 0) hx hb dX12_locked_2 (by decide +kernel) ?_
  refine lv_istore_n (lv' := [(2, .int (iI 0)), (1, .int (iI 0)), (0, .ref (q 0))]) hx hb dX12_locked_3 rfl hl (by decide) rfl (fun ls hl => ?_)
  have L4_6 : ∀ (n8 : Nat) (z1 z2 : Int) (A4 : St) (H : Heap) (locs : List Loc) (ls : Array Slot), (0 ≤ z1) → (0 ≤ z1 ∧ z1 ≤ 2147483647) → (-2147483648 ≤ z2 ∧ z2 ≤ 2147483647) → ((A 16 ((A 0 12)).toNat - z1 + 1).toNat = n8) → IM A4 → fr [42, 43, 47, 48, 49, 50] [66, 67, 69, 70, 71, 73] A A4 → va_P (dC, dI) vwCl (WM cI cJ cZ q A4) H → va_S AS s.heap H locs → lv_has ls 3 [(2, .int (iI z1)), (1, .int (iI z2)), (0, .ref (q 0))] → W p l e (headSpec ws_mb_X12_locked ({ frames := 8, cells := 0, slots := 0, locals := 194 } : Room)).room s m [.ref (q 0)].toArray below meth c H locs 0 0 Q (F0 m 4 ls []) := by
    intro n8
    induction n8 using Nat.strongRecOn with
    | ind n8 ih7 =>
      intro z1 z2 A4 H locs ls f9 f10 f11 hn8 hI hj3 hP hS hl
      refine lv_iload_n hx hb dX12_locked_4 rfl (lv_at hl 0 rfl) ?_
      refine lv_aload_n hx hb dX12_locked_5 rfl (lv_at hl 2 rfl) ?_
      refine va_get (D := (dC, dI)) (ci := 12) (v := .ref (q 16)) (C := RX12) (T := TX12) (N := 85) hx hb hts hiX12 hown hK hP 0 wm0 rfl 27 (by decide) (hts _ (List.mem_cons_of_mem _ (wl_in_1 _ (List.mem_of_getElem? (i := 15) rfl)))) (fun _ h9 => h9) rfl dX12_locked_6 ?_
      refine lv_aload_n hx hb dX12_locked_9 rfl (lv_at hl 2 rfl) ?_
      have e_A4_12 : A4 0 12 = (A 0 12) := (hj3.2 12 rfl)
      refine va_get (D := (dC, dI)) (ci := 12) (v := .int (iI (A4 0 12))) (C := RX12) (T := TX12) (N := 85) hx hb hts hiX12 hown hK hP 0 wm0 rfl 12 (by decide) (hts _ (List.mem_cons_of_mem _ (wl_in_4 _ (List.mem_of_getElem? (i := 14) rfl)))) (fun _ h9 => h9) rfl dX12_locked_10 ?_
      refine tp_i (y := iI (A 0 12)) (congrArg iI e_A4_12) ?_
      have r_A_0_12 : (0 : Int) ≤ (A 0 12) ∧ (A 0 12) ≤ 1 := by rw [← e_A4_12]; exact hI 0 12
      have a_A4_16 : A4 16 = A 16 := (hj3.1 16 (by decide) rfl)
      refine x_iald hx hb hK hP 16 1 wm16 rfl (by omega) (by decide) dX12_locked_13 (fun z12 hz12 => ?_)
      have rz12 : (0 : Int) ≤ z12 ∧ z12 ≤ 3 := by rw [hz12]; exact hI 16 _
      have hz12 : z12 = A 16 ((A 0 12)).toNat := hz12.trans (congrFun a_A4_16 _)
      refine lv_icmp_ge (tgt := 41) hx hb dX12_locked_14 (by decide) (fun c13 => ?_) (fun c13 => ?_)
      · have c13 : z12 ≤ z1 := (i_le (rb rz12 (by decide) (by decide)) (rb f10 (by decide) (by decide))).mp c13
        refine lv_iload_n hx hb dX12_locked_41 rfl (lv_at hl 1 rfl) ?_
        exact RET z2 _ _ _ _ _ ⟨hI, fr.trans (fr.rf) hj3 rfl rfl, (CI.fr hcCI hj3 rfl rfl), (WI.fr hcWI hj3 rfl rfl), by omega⟩ hP hS dX12_locked_42
      · have c13 : ¬ z12 ≤ z1 := mt (i_le (rb rz12 (by decide) (by decide)) (rb f10 (by decide) (by decide))).mpr c13
        refine lv_iload_n hx hb dX12_locked_17 rfl (lv_at hl 1 rfl) ?_
        refine lv_aload_n hx hb dX12_locked_18 rfl (lv_at hl 2 rfl) ?_
        refine lv_iload_n hx hb dX12_locked_19 rfl (lv_at hl 0 rfl) ?_
        refine x_calli (As := [.int (iI z1)]) (rest := [.int (iI z2)]) ⟨hx, hb, hml, hown, hts⟩ (mb_X12_isLockedIn l dC dI cB cI cJ cZ cQ q _ z1 hI (by omega) (CI.fr hcCI hj3 rfl rfl) (WI.fr hcWI hj3 rfl rfl)) (cwV 1 hts (goodV (wl_in_7 _ (List.mem_of_getElem? (i := 38) rfl)) (wl_in_7 _ (List.mem_of_getElem? (i := 39) rfl)) (wl_in_7 _ (List.mem_of_getElem? (i := 40) rfl)) (wl_in_0 _ (List.mem_of_getElem? (i := 8) rfl)) (wl_in_7 _ (List.mem_of_getElem? (i := 36) rfl))) rfl rfl rfl (by decide +kernel) ⟨Nat.le_of_ble_eq_true rfl, Nat.le_of_ble_eq_true rfl⟩) hK hDD hA0 hP hS 0 12 wm0 rfl rfl hl.1 (Nat.le_of_ble_eq_true rfl) dX12_locked_20 (fun z14 A15 H locs hw16 hP hS => ?_)
        obtain ⟨hI, hf17, hw16⟩ := hw16
        obtain ⟨hc18, hw16⟩ := hw16
        obtain ⟨hc19, hw16⟩ := hw16
        have J33_21 : ∀ (z23 : Int) (H : Heap) (locs : List Loc) (ls : Array Slot), (0 ≤ z23 ∧ z23 ≤ 4) → va_P (dC, dI) vwCl (WM cI cJ cZ q A15) H → va_S AS s.heap H locs → lv_has ls 3 [(2, .int (iI z1)), (1, .int (iI z2)), (0, .ref (q 0))] → W p l e (headSpec ws_mb_X12_locked ({ frames := 8, cells := 0, slots := 0, locals := 194 } : Room)).room s m [.ref (q 0)].toArray below meth c H locs 0 0 Q (F0 m 33 ls [.int (iI z23), .int (iI z2)]) := by
          intro z23 H locs ls f25 hP hS hl
          refine lv_ior hx hb dX12_locked_33 ?_
          refine x_abs (fun z26 hz26 => ?_)
          refine lv_istore_n (lv' := [(1, .int (iI z26)), (2, .int (iI z1)), (0, .ref (q 0))]) hx hb dX12_locked_34 rfl hl (by decide) rfl (fun ls hl => ?_)
          refine lv_iinc (v := iI (z1 + 1)) (lv' := [(2, .int (iI (z1 + 1))), (1, .int (iI z26)), (0, .ref (q 0))]) hx hb dX12_locked_35 hl (k := 1) rfl (i_inc (by omega)) (by decide) rfl (fun ls hl => ?_)
          refine lv_goto (tgt := 4) hx hb dX12_locked_38 (by decide) ?_
          exact ih7 _ (by omega) (z1 + 1) z26 _ _ _ _ (by omega) (by omega) (by omega) rfl hI (fr.trans (fr.trans (fr.rf) hj3 rfl rfl) hf17 rfl rfl) hP hS (lv_sub hl [0, 1, 2] rfl)
        refine lv_if_eq (tgt := 32) hx hb dX12_locked_23 (by decide) (fun c20 => ?_) (fun c20 => ?_)
        · have c20 : z14 = 0 := (i_eq0 (rb hw16 (by decide) (by decide))).mp c20
          refine lv_iconst (v := iI 0) hx hb dX12_locked_32 (by decide +kernel) ?_
          exact J33_21 0 _ _ _ (by omega) hP hS (lv_sub hl [0, 1, 2] rfl)
        · have c20 : ¬ z14 = 0 := mt (i_eq0 (rb hw16 (by decide) (by decide))).mpr c20
          refine lv_iconst (v := iI 1) hx hb dX12_locked_26 (by decide +kernel) ?_
          refine lv_iload_n hx hb dX12_locked_27 rfl (lv_at hl 0 rfl) ?_
          refine x_shl1 (M := 2) (t := 4) hx hb dX12_locked_28 (by omega) (by decide) (by decide) (fun z22 hz22 => ?_)
          refine lv_goto (tgt := 33) hx hb dX12_locked_29 (by decide) ?_
          exact J33_21 z22 _ _ _ (by omega) hP hS (lv_sub hl [0, 1, 2] rfl)
  exact L4_6 _ 0 0 _ _ _ _ (by omega) (by omega) (by omega) rfl hI (fr.rf) hP hS (lv_sub hl [0, 1, 2] rfl)
