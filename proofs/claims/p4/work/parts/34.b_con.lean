def ws_mc_X12_opened : List Cond := .code yX12_opened cX12_opened 4 (some .int) :: WX
set_option maxHeartbeats 4000000 in
set_option maxRecDepth 100000 in
theorem mc_X12_opened (l : Launch) (dC : Nat → ClassId) (dI : Nat → Nat → Nat) (cB cI cJ cZ cQ : ClassId) (q : Nat → Nat) (A : St) (x1 x2 : Int) (hI : IM A) (hx1 : (0 : Int) ≤ x1 ∧ x1 ≤ 2) (hx2 : (0 : Int) ≤ x2 ∧ x2 ≤ 3) : XMi l yX12_opened ws_mc_X12_opened ({ frames := 2, cells := 0, slots := 0, locals := 43 } : Room) (dC, dI) (tyA cB cI cJ cZ cQ) (WM cI cJ cZ q) A [.ref (q 0), .int (iI x1), .int (iI x2)] (fun z u => IM u ∧ fr [14] [] A u ∧ (-1 ≤ z ∧ z ≤ 9)) := by
  refine x_meti (cc := cX12_opened) (maxL := 4) WM_adr (by decide +kernel) rfl (Nat.le_of_ble_eq_true rfl) (fun p e s m below meth c Q AS ls hx hb hml hown hts hK hDD hA0 hP hS hl RET => ?_)
  have hown : s.vm.findClass RX12 = some m.cls := hown
  have hl : lv_has ls 4 [(0, .ref (q 0)), (1, .int (iI x1)), (2, .int (iI x2))] := hl
  have hiX12 : ∀ w ∈ u_ws RX12 TX12 85, w ∈ ws_mc_X12_opened := fun w h => List.mem_cons_of_mem _ (wx_lay w h)
  obtain ⟨H, hHe⟩ : ∃ H : Heap, H = s.heap := ⟨_, rfl⟩
  rw [← hHe] at hP
  have hS : va_S AS s.heap H [] := by rw [hHe]; exact hS
  suffices hgo : ∀ locs : List Loc, va_S AS s.heap H locs → W p l e (headSpec ws_mc_X12_opened ({ frames := 2, cells := 0, slots := 0, locals := 43 } : Room)).room s m [.ref (q 0), .int (iI x1), .int (iI x2)].toArray below meth c H locs 0 0 Q (F0 m 0 ls []) by
    have := hgo [] hS
    rw [hHe] at this
    exact this
  clear hS hHe
  intro locs hS
  refine lv_aload_n hx hb dX12_opened_0 rfl (lv_at hl 0 rfl) ?_
  refine lv_iload_n hx hb dX12_opened_1 rfl (lv_at hl 2 rfl) ?_
  have r_A_0_12 : (0 : Int) ≤ (A 0 12) ∧ (A 0 12) ≤ 1 := hI 0 12
  refine x_calli (As := [.int (iI x2)]) (rest := []) ⟨hx, hb, hml, hown, hts⟩ (mc_X12_topOf l dC dI cB cI cJ cZ cQ q _ x2 hI hx2) (cwV 1 hts (goodV (wl_in_5 _ (List.mem_of_getElem? (i := 21) rfl)) (wl_in_5 _ (List.mem_of_getElem? (i := 22) rfl)) (wl_in_5 _ (List.mem_of_getElem? (i := 23) rfl)) (wl_in_0 _ (List.mem_of_getElem? (i := 8) rfl)) (wl_in_4 _ (List.mem_of_getElem? (i := 47) rfl))) rfl rfl rfl (by decide +kernel) ⟨Nat.le_of_ble_eq_true rfl, Nat.le_of_ble_eq_true rfl⟩) hK hDD hA0 hP hS 0 12 wm0 rfl rfl hl.1 (Nat.le_of_ble_eq_true rfl) dX12_opened_2 (fun z1 A2 H locs hw3 hP hS => ?_)
  obtain ⟨rfl, hw3⟩ := hw3
  refine lv_istore_n (lv' := [(3, .int (iI z1)), (0, .ref (q 0)), (1, .int (iI x1)), (2, .int (iI x2))]) hx hb dX12_opened_5 rfl hl (by decide) rfl (fun ls hl => ?_)
  refine lv_aload_n hx hb dX12_opened_6 rfl (lv_at hl 1 rfl) ?_
  refine va_get (D := (dC, dI)) (ci := 12) (v := .ref (q 13)) (C := RX12) (T := TX12) (N := 85) hx hb hts hiX12 hown hK hP 0 wm0 rfl 24 (by decide) (hts _ (List.mem_cons_of_mem _ (wl_in_2 _ (List.mem_of_getElem? (i := 58) rfl)))) (fun _ h9 => h9) rfl dX12_opened_7 ?_
  refine lv_aload_n hx hb dX12_opened_10 rfl (lv_at hl 1 rfl) ?_
  refine lv_iload_n hx hb dX12_opened_11 rfl (lv_at hl 3 rfl) ?_
  refine x_calli (As := [.int (iI x2)]) (rest := [.ref (q 13)]) ⟨hx, hb, hml, hown, hts⟩ (mc_X12_key4 l dC dI cB cI cJ cZ cQ q _ x2 hI hx2) (cwV 1 hts (goodV (wl_in_4 _ (List.mem_of_getElem? (i := 44) rfl)) (wl_in_4 _ (List.mem_of_getElem? (i := 45) rfl)) (wl_in_4 _ (List.mem_of_getElem? (i := 46) rfl)) (wl_in_0 _ (List.mem_of_getElem? (i := 8) rfl)) (wl_in_4 _ (List.mem_of_getElem? (i := 41) rfl))) rfl rfl rfl (by decide +kernel) ⟨Nat.le_of_ble_eq_true rfl, Nat.le_of_ble_eq_true rfl⟩) hK hDD hA0 hP hS 0 12 wm0 rfl rfl hl.1 (Nat.le_of_ble_eq_true rfl) dX12_opened_12 (fun z4 A5 H locs hw6 hP hS => ?_)
  obtain ⟨rfl, hw6⟩ := hw6
  refine tp_i (y := iI (4 * (A 0 12) + x2)) (congrArg iI (show z4 = 4 * (A 0 12) + x2 by omega)) ?_
  clear hw6 z4
  refine x_iald hx hb hK hP 13 1 wm13 rfl (by omega) (by decide) dX12_opened_15 (fun z7 hz7 => ?_)
  have rz7 : (0 : Int) ≤ z7 ∧ z7 ≤ 40 := by rw [hz7]; exact hI 13 _
  have hz7 : z7 = A 13 (4 * (A 0 12) + x2).toNat := hz7
  refine lv_iload_n hx hb dX12_opened_16 rfl (lv_at hl 2 rfl) ?_
  refine lv_icmp_ne (tgt := 38) hx hb dX12_opened_17 (by decide) (fun c8 => ?_) (fun c8 => ?_)
  · have c8 : ¬ z7 = x1 := mt (i_eq (rb rz7 (by decide) (by decide)) (rb hx1 (by decide) (by decide))).mpr c8
    refine lv_iconst (v := iI (-1)) hx hb dX12_opened_38 (by decide +kernel) ?_
    exact RET (-1) _ _ _ _ _ ⟨hI, fr.rf, by omega⟩ hP hS dX12_opened_39
  · have c8 : z7 = x1 := (i_eq (rb rz7 (by decide) (by decide)) (rb hx1 (by decide) (by decide))).mp c8
    refine lv_iload_n hx hb dX12_opened_20 rfl (lv_at hl 0 rfl) ?_
    refine lv_iconst (v := iI (-1)) hx hb dX12_opened_21 (by decide +kernel) ?_
    refine lv_icmp_eq (tgt := 38) hx hb dX12_opened_22 (by decide) (fun c9 => ?_) (fun c9 => ?_)
    · have c9 : z1 = (-1) := (i_eq (by omega) ⟨by decide, by decide⟩).mp c9
      refine lv_iconst (v := iI (-1)) hx hb dX12_opened_38 (by decide +kernel) ?_
      exact RET (-1) _ _ _ _ _ ⟨hI, fr.rf, by omega⟩ hP hS dX12_opened_39
    · have c9 : ¬ z1 = (-1) := mt (i_eq (by omega) ⟨by decide, by decide⟩).mpr c9
      refine lv_aload_n hx hb dX12_opened_25 rfl (lv_at hl 1 rfl) ?_
      refine lv_aload_n hx hb dX12_opened_26 rfl (lv_at hl 1 rfl) ?_
      refine lv_iload_n hx hb dX12_opened_27 rfl (lv_at hl 2 rfl) ?_
      refine x_calli (As := [.int (iI x1)]) (rest := [.ref (q 0)]) ⟨hx, hb, hml, hown, hts⟩ (mc_X12_placeOf l dC dI cB cI cJ cZ cQ q _ x1 hI hx1) (cwV 1 hts (goodV (wl_in_5 _ (List.mem_of_getElem? (i := 35) rfl)) (wl_in_5 _ (List.mem_of_getElem? (i := 36) rfl)) (wl_in_5 _ (List.mem_of_getElem? (i := 37) rfl)) (wl_in_0 _ (List.mem_of_getElem? (i := 8) rfl)) (wl_in_5 _ (List.mem_of_getElem? (i := 25) rfl))) rfl rfl rfl (by decide +kernel) ⟨Nat.le_of_ble_eq_true rfl, Nat.le_of_ble_eq_true rfl⟩) hK hDD hA0 hP hS 0 12 wm0 rfl rfl hl.1 (Nat.le_of_ble_eq_true rfl) dX12_opened_28 (fun z10 A11 H locs hw12 hP hS => ?_)
      obtain ⟨rfl, hw12⟩ := hw12
      refine lv_iload_n hx hb dX12_opened_31 rfl (lv_at hl 0 rfl) ?_
      refine x_calli (As := [.int (iI z10), .int (iI z1)]) (rest := []) ⟨hx, hb, hml, hown, hts⟩ (mc_X12_isAt l dC dI cB cI cJ cZ cQ q _ z10 z1 hI (rb hw12 (by decide) (by decide)) (by omega)) (cwV 2 hts (goodV (wl_in_5 _ (List.mem_of_getElem? (i := 38) rfl)) (wl_in_5 _ (List.mem_of_getElem? (i := 39) rfl)) (wl_in_5 _ (List.mem_of_getElem? (i := 40) rfl)) (wl_in_0 _ (List.mem_of_getElem? (i := 8) rfl)) (wl_in_5 _ (List.mem_of_getElem? (i := 28) rfl))) rfl rfl rfl (by decide +kernel) ⟨Nat.le_of_ble_eq_true rfl, Nat.le_of_ble_eq_true rfl⟩) hK hDD hA0 hP hS 0 12 wm0 rfl rfl hl.1 (Nat.le_of_ble_eq_true rfl) dX12_opened_32 (fun z13 A14 H locs hw15 hP hS => ?_)
      obtain ⟨rfl, hw15⟩ := hw15
      refine lv_if_ne (tgt := 40) hx hb dX12_opened_35 (by decide) (fun c16 => ?_) (fun c16 => ?_)
      · have c16 : ¬ z13 = 0 := mt (i_eq0 (rb hw15 (by decide) (by decide))).mpr c16
        refine lv_aload_n hx hb dX12_opened_40 rfl (lv_at hl 1 rfl) ?_
        refine va_get (D := (dC, dI)) (ci := 12) (v := .ref (q 14)) (C := RX12) (T := TX12) (N := 85) hx hb hts hiX12 hown hK hP 0 wm0 rfl 25 (by decide) (hts _ (List.mem_cons_of_mem _ (wl_in_2 _ (List.mem_of_getElem? (i := 59) rfl)))) (fun _ h9 => h9) rfl dX12_opened_41 ?_
        refine lv_aload_n hx hb dX12_opened_44 rfl (lv_at hl 1 rfl) ?_
        refine lv_iload_n hx hb dX12_opened_45 rfl (lv_at hl 3 rfl) ?_
        refine x_calli (As := [.int (iI x2)]) (rest := [.ref (q 14)]) ⟨hx, hb, hml, hown, hts⟩ (mc_X12_key4 l dC dI cB cI cJ cZ cQ q _ x2 hI hx2) (cwV 1 hts (goodV (wl_in_4 _ (List.mem_of_getElem? (i := 44) rfl)) (wl_in_4 _ (List.mem_of_getElem? (i := 45) rfl)) (wl_in_4 _ (List.mem_of_getElem? (i := 46) rfl)) (wl_in_0 _ (List.mem_of_getElem? (i := 8) rfl)) (wl_in_4 _ (List.mem_of_getElem? (i := 41) rfl))) rfl rfl rfl (by decide +kernel) ⟨Nat.le_of_ble_eq_true rfl, Nat.le_of_ble_eq_true rfl⟩) hK hDD hA0 hP hS 0 12 wm0 rfl rfl hl.1 (Nat.le_of_ble_eq_true rfl) dX12_opened_46 (fun z17 A18 H locs hw19 hP hS => ?_)
        obtain ⟨rfl, hw19⟩ := hw19
        refine tp_i (y := iI (4 * (A 0 12) + x2)) (congrArg iI (show z17 = 4 * (A 0 12) + x2 by omega)) ?_
        clear hw19 z17
        refine lv_dup2_11 hx hb dX12_opened_49 rfl rfl ?_
        refine x_iald hx hb hK hP 14 1 wm14 rfl (by omega) (by decide) dX12_opened_50 (fun z20 hz20 => ?_)
        have rz20 : (0 : Int) ≤ z20 ∧ z20 ≤ 6 := by rw [hz20]; exact hI 14 _
        have hz20 : z20 = A 14 (4 * (A 0 12) + x2).toNat := hz20
        refine lv_iconst (v := iI 1) hx hb dX12_opened_51 (by decide +kernel) ?_
        refine x_subv (v := z20 - 1) hx hb dX12_opened_52 (by omega) ?_
        refine x_iast hx hb hK hP hDD hS 14 1 wm14 rfl (by omega) (by decide) dX12_opened_53 ws14 (fun H locs hP hS => ?_)
        have hI := hI.st (j := 14) (i := (4 * (A 0 12) + x2).toNat) (v := z20 - 1) (show (0 : Int) ≤ z20 - 1 ∧ z20 - 1 ≤ 6 from (by omega))
        refine lv_iload_n hx hb dX12_opened_54 rfl (lv_at hl 0 rfl) ?_
        exact RET z1 _ _ _ _ _ ⟨hI, fr.st (fr.rf) (by decide) rfl, by omega⟩ hP hS dX12_opened_55
      · have c16 : z13 = 0 := (i_eq0 (rb hw15 (by decide) (by decide))).mp c16
        refine lv_iconst (v := iI (-1)) hx hb dX12_opened_38 (by decide +kernel) ?_
        exact RET (-1) _ _ _ _ _ ⟨hI, fr.rf, by omega⟩ hP hS dX12_opened_39

def ws_mc_X12_closed : List Cond := .code yX12_closed cX12_closed 4 (some .int) :: WX
set_option maxHeartbeats 4000000 in
set_option maxRecDepth 100000 in
theorem mc_X12_closed (l : Launch) (dC : Nat → ClassId) (dI : Nat → Nat → Nat) (cB cI cJ cZ cQ : ClassId) (q : Nat → Nat) (A : St) (x1 x2 x3 : Int) (hI : IM A) (hx1 : (0 : Int) ≤ x1 ∧ x1 ≤ 2) (hx2 : (0 : Int) ≤ x2 ∧ x2 ≤ 3) (hx3 : (0 : Int) ≤ x3 ∧ x3 ≤ 9) : XMi l yX12_closed ws_mc_X12_closed ({ frames := 2, cells := 0, slots := 0, locals := 45 } : Room) (dC, dI) (tyA cB cI cJ cZ cQ) (WM cI cJ cZ q) A [.ref (q 0), .int (iI x1), .int (iI x2), .int (iI x3)] (fun z u => IM u ∧ fr [14, 15] [] A u ∧ (-2147483648 ≤ z ∧ z ≤ 2147483647)) := by
  refine x_meti (cc := cX12_closed) (maxL := 4) WM_adr (by decide +kernel) rfl (Nat.le_of_ble_eq_true rfl) (fun p e s m below meth c Q AS ls hx hb hml hown hts hK hDD hA0 hP hS hl RET => ?_)
  have hown : s.vm.findClass RX12 = some m.cls := hown
  have hl : lv_has ls 4 [(0, .ref (q 0)), (1, .int (iI x1)), (2, .int (iI x2)), (3, .int (iI x3))] := hl
  have hiX12 : ∀ w ∈ u_ws RX12 TX12 85, w ∈ ws_mc_X12_closed := fun w h => List.mem_cons_of_mem _ (wx_lay w h)
  obtain ⟨H, hHe⟩ : ∃ H : Heap, H = s.heap := ⟨_, rfl⟩
  rw [← hHe] at hP
  have hS : va_S AS s.heap H [] := by rw [hHe]; exact hS
  suffices hgo : ∀ locs : List Loc, va_S AS s.heap H locs → W p l e (headSpec ws_mc_X12_closed ({ frames := 2, cells := 0, slots := 0, locals := 45 } : Room)).room s m [.ref (q 0), .int (iI x1), .int (iI x2), .int (iI x3)].toArray below meth c H locs 0 0 Q (F0 m 0 ls []) by
    have := hgo [] hS
    rw [hHe] at this
    exact this
  clear hS hHe
  intro locs hS
  refine lv_aload_n hx hb dX12_closed_0 rfl (lv_at hl 0 rfl) ?_
  refine va_get (D := (dC, dI)) (ci := 12) (v := .ref (q 13)) (C := RX12) (T := TX12) (N := 85) hx hb hts hiX12 hown hK hP 0 wm0 rfl 24 (by decide) (hts _ (List.mem_cons_of_mem _ (wl_in_2 _ (List.mem_of_getElem? (i := 58) rfl)))) (fun _ h9 => h9) rfl dX12_closed_1 ?_
  refine lv_aload_n hx hb dX12_closed_4 rfl (lv_at hl 0 rfl) ?_
  refine lv_iload_n hx hb dX12_closed_5 rfl (lv_at hl 2 rfl) ?_
  have r_A_0_12 : (0 : Int) ≤ (A 0 12) ∧ (A 0 12) ≤ 1 := hI 0 12
  refine x_calli (As := [.int (iI x2)]) (rest := [.ref (q 13)]) ⟨hx, hb, hml, hown, hts⟩ (mc_X12_key4 l dC dI cB cI cJ cZ cQ q _ x2 hI hx2) (cwV 1 hts (goodV (wl_in_4 _ (List.mem_of_getElem? (i := 44) rfl)) (wl_in_4 _ (List.mem_of_getElem? (i := 45) rfl)) (wl_in_4 _ (List.mem_of_getElem? (i := 46) rfl)) (wl_in_0 _ (List.mem_of_getElem? (i := 8) rfl)) (wl_in_4 _ (List.mem_of_getElem? (i := 41) rfl))) rfl rfl rfl (by decide +kernel) ⟨Nat.le_of_ble_eq_true rfl, Nat.le_of_ble_eq_true rfl⟩) hK hDD hA0 hP hS 0 12 wm0 rfl rfl hl.1 (Nat.le_of_ble_eq_true rfl) dX12_closed_6 (fun z1 A2 H locs hw3 hP hS => ?_)
  obtain ⟨rfl, hw3⟩ := hw3
  refine tp_i (y := iI (4 * (A 0 12) + x2)) (congrArg iI (show z1 = 4 * (A 0 12) + x2 by omega)) ?_
  clear hw3 z1
  refine x_iald hx hb hK hP 13 1 wm13 rfl (by omega) (by decide) dX12_closed_9 (fun z4 hz4 => ?_)
  have rz4 : (0 : Int) ≤ z4 ∧ z4 ≤ 40 := by rw [hz4]; exact hI 13 _
  have hz4 : z4 = A 13 (4 * (A 0 12) + x2).toNat := hz4
  refine lv_iload_n hx hb dX12_closed_10 rfl (lv_at hl 1 rfl) ?_
  refine lv_icmp_ne (tgt := 51) hx hb dX12_closed_11 (by decide) (fun c5 => ?_) (fun c5 => ?_)
  · have c5 : ¬ z4 = x1 := mt (i_eq (rb rz4 (by decide) (by decide)) (rb hx1 (by decide) (by decide))).mpr c5
    refine lv_iconst (v := iI (-1)) hx hb dX12_closed_51 (by decide +kernel) ?_
    exact RET (-1) _ _ _ _ _ ⟨hI, fr.rf, by omega⟩ hP hS dX12_closed_52
  · have c5 : z4 = x1 := (i_eq (rb rz4 (by decide) (by decide)) (rb hx1 (by decide) (by decide))).mp c5
    refine lv_aload_n hx hb dX12_closed_14 rfl (lv_at hl 0 rfl) ?_
    refine lv_aload_n hx hb dX12_closed_15 rfl (lv_at hl 0 rfl) ?_
    refine lv_iload_n hx hb dX12_closed_16 rfl (lv_at hl 1 rfl) ?_
    refine x_calli (As := [.int (iI x1)]) (rest := [.ref (q 0)]) ⟨hx, hb, hml, hown, hts⟩ (mc_X12_placeOf l dC dI cB cI cJ cZ cQ q _ x1 hI hx1) (cwV 1 hts (goodV (wl_in_5 _ (List.mem_of_getElem? (i := 35) rfl)) (wl_in_5 _ (List.mem_of_getElem? (i := 36) rfl)) (wl_in_5 _ (List.mem_of_getElem? (i := 37) rfl)) (wl_in_0 _ (List.mem_of_getElem? (i := 8) rfl)) (wl_in_5 _ (List.mem_of_getElem? (i := 25) rfl))) rfl rfl rfl (by decide +kernel) ⟨Nat.le_of_ble_eq_true rfl, Nat.le_of_ble_eq_true rfl⟩) hK hDD hA0 hP hS 0 12 wm0 rfl rfl hl.1 (Nat.le_of_ble_eq_true rfl) dX12_closed_17 (fun z6 A7 H locs hw8 hP hS => ?_)
    obtain ⟨rfl, hw8⟩ := hw8
    refine lv_iload_n hx hb dX12_closed_20 rfl (lv_at hl 3 rfl) ?_
    refine x_calli (As := [.int (iI z6), .int (iI x3)]) (rest := []) ⟨hx, hb, hml, hown, hts⟩ (mc_X12_isAt l dC dI cB cI cJ cZ cQ q _ z6 x3 hI (rb hw8 (by decide) (by decide)) hx3) (cwV 2 hts (goodV (wl_in_5 _ (List.mem_of_getElem? (i := 38) rfl)) (wl_in_5 _ (List.mem_of_getElem? (i := 39) rfl)) (wl_in_5 _ (List.mem_of_getElem? (i := 40) rfl)) (wl_in_0 _ (List.mem_of_getElem? (i := 8) rfl)) (wl_in_5 _ (List.mem_of_getElem? (i := 28) rfl))) rfl rfl rfl (by decide +kernel) ⟨Nat.le_of_ble_eq_true rfl, Nat.le_of_ble_eq_true rfl⟩) hK hDD hA0 hP hS 0 12 wm0 rfl rfl hl.1 (Nat.le_of_ble_eq_true rfl) dX12_closed_21 (fun z9 A10 H locs hw11 hP hS => ?_)
    obtain ⟨rfl, hw11⟩ := hw11
    refine lv_if_eq (tgt := 51) hx hb dX12_closed_24 (by decide) (fun c12 => ?_) (fun c12 => ?_)
    · have c12 : z9 = 0 := (i_eq0 (rb hw11 (by decide) (by decide))).mp c12
      refine lv_iconst (v := iI (-1)) hx hb dX12_closed_51 (by decide +kernel) ?_
      exact RET (-1) _ _ _ _ _ ⟨hI, fr.rf, by omega⟩ hP hS dX12_closed_52
    · have c12 : ¬ z9 = 0 := mt (i_eq0 (rb hw11 (by decide) (by decide))).mpr c12
      refine lv_aload_n hx hb dX12_closed_27 rfl (lv_at hl 0 rfl) ?_
      refine lv_iload_n hx hb dX12_closed_28 rfl (lv_at hl 2 rfl) ?_
      refine lv_iload_n hx hb dX12_closed_29 rfl (lv_at hl 3 rfl) ?_
      refine x_calli (As := [.int (iI x2), .int (iI x3)]) (rest := []) ⟨hx, hb, hml, hown, hts⟩ (mc_X12_inRow l dC dI cB cI cJ cZ cQ q _ x2 x3 hI hx2 (rb hx3 (by decide) (by decide))) (cwV 2 hts (goodV (wl_in_4 _ (List.mem_of_getElem? (i := 52) rfl)) (wl_in_4 _ (List.mem_of_getElem? (i := 53) rfl)) (wl_in_4 _ (List.mem_of_getElem? (i := 54) rfl)) (wl_in_0 _ (List.mem_of_getElem? (i := 8) rfl)) (wl_in_4 _ (List.mem_of_getElem? (i := 43) rfl))) rfl rfl rfl (by decide +kernel) ⟨Nat.le_of_ble_eq_true rfl, Nat.le_of_ble_eq_true rfl⟩) hK hDD hA0 hP hS 0 12 wm0 rfl rfl hl.1 (Nat.le_of_ble_eq_true rfl) dX12_closed_30 (fun z13 A14 H locs hw15 hP hS => ?_)
      obtain ⟨rfl, hw15⟩ := hw15
      refine lv_if_ne (tgt := 51) hx hb dX12_closed_33 (by decide) (fun c16 => ?_) (fun c16 => ?_)
      · have c16 : ¬ z13 = 0 := mt (i_eq0 (rb hw15 (by decide) (by decide))).mpr c16
        refine lv_iconst (v := iI (-1)) hx hb dX12_closed_51 (by decide +kernel) ?_
        exact RET (-1) _ _ _ _ _ ⟨hI, fr.rf, by omega⟩ hP hS dX12_closed_52
      · have c16 : z13 = 0 := (i_eq0 (rb hw15 (by decide) (by decide))).mp c16
        refine lv_aload_n hx hb dX12_closed_36 rfl (lv_at hl 0 rfl) ?_
        refine va_get (D := (dC, dI)) (ci := 12) (v := .ref (q 14)) (C := RX12) (T := TX12) (N := 85) hx hb hts hiX12 hown hK hP 0 wm0 rfl 25 (by decide) (hts _ (List.mem_cons_of_mem _ (wl_in_2 _ (List.mem_of_getElem? (i := 59) rfl)))) (fun _ h9 => h9) rfl dX12_closed_37 ?_
        refine lv_aload_n hx hb dX12_closed_40 rfl (lv_at hl 0 rfl) ?_
        refine lv_iload_n hx hb dX12_closed_41 rfl (lv_at hl 2 rfl) ?_
        refine x_calli (As := [.int (iI x2)]) (rest := [.ref (q 14)]) ⟨hx, hb, hml, hown, hts⟩ (mc_X12_key4 l dC dI cB cI cJ cZ cQ q _ x2 hI hx2) (cwV 1 hts (goodV (wl_in_4 _ (List.mem_of_getElem? (i := 44) rfl)) (wl_in_4 _ (List.mem_of_getElem? (i := 45) rfl)) (wl_in_4 _ (List.mem_of_getElem? (i := 46) rfl)) (wl_in_0 _ (List.mem_of_getElem? (i := 8) rfl)) (wl_in_4 _ (List.mem_of_getElem? (i := 41) rfl))) rfl rfl rfl (by decide +kernel) ⟨Nat.le_of_ble_eq_true rfl, Nat.le_of_ble_eq_true rfl⟩) hK hDD hA0 hP hS 0 12 wm0 rfl rfl hl.1 (Nat.le_of_ble_eq_true rfl) dX12_closed_42 (fun z17 A18 H locs hw19 hP hS => ?_)
        obtain ⟨rfl, hw19⟩ := hw19
        refine tp_i (y := iI (4 * (A 0 12) + x2)) (congrArg iI (show z17 = 4 * (A 0 12) + x2 by omega)) ?_
        clear hw19 z17
        refine x_iald hx hb hK hP 14 1 wm14 rfl (by omega) (by decide) dX12_closed_45 (fun z20 hz20 => ?_)
        have rz20 : (0 : Int) ≤ z20 ∧ z20 ≤ 6 := by rw [hz20]; exact hI 14 _
        have hz20 : z20 = A 14 (4 * (A 0 12) + x2).toNat := hz20
        refine lv_bipush (v := iI 6) hx hb dX12_closed_46 (by decide +kernel) ?_
        refine lv_icmp_ne (tgt := 53) hx hb dX12_closed_48 (by decide) (fun c21 => ?_) (fun c21 => ?_)
        · have c21 : ¬ z20 = 6 := mt (i_eq (rb rz20 (by decide) (by decide)) ⟨by decide, by decide⟩).mpr c21
          refine lv_aload_n hx hb dX12_closed_53 rfl (lv_at hl 0 rfl) ?_
          refine va_get (D := (dC, dI)) (ci := 12) (v := .ref (q 15)) (C := RX12) (T := TX12) (N := 85) hx hb hts hiX12 hown hK hP 0 wm0 rfl 26 (by decide) (hts _ (List.mem_cons_of_mem _ (wl_in_3 _ (List.mem_of_getElem? (i := 7) rfl)))) (fun _ h9 => h9) rfl dX12_closed_54 ?_
          refine lv_bipush (v := iI 10) hx hb dX12_closed_57 (by decide +kernel) ?_
          refine lv_aload_n hx hb dX12_closed_59 rfl (lv_at hl 0 rfl) ?_
          refine lv_iload_n hx hb dX12_closed_60 rfl (lv_at hl 2 rfl) ?_
          refine x_calli (As := [.int (iI x2)]) (rest := [.int (iI 10), .ref (q 15)]) ⟨hx, hb, hml, hown, hts⟩ (mc_X12_key4 l dC dI cB cI cJ cZ cQ q _ x2 hI hx2) (cwV 1 hts (goodV (wl_in_4 _ (List.mem_of_getElem? (i := 44) rfl)) (wl_in_4 _ (List.mem_of_getElem? (i := 45) rfl)) (wl_in_4 _ (List.mem_of_getElem? (i := 46) rfl)) (wl_in_0 _ (List.mem_of_getElem? (i := 8) rfl)) (wl_in_4 _ (List.mem_of_getElem? (i := 41) rfl))) rfl rfl rfl (by decide +kernel) ⟨Nat.le_of_ble_eq_true rfl, Nat.le_of_ble_eq_true rfl⟩) hK hDD hA0 hP hS 0 12 wm0 rfl rfl hl.1 (Nat.le_of_ble_eq_true rfl) dX12_closed_61 (fun z22 A23 H locs hw24 hP hS => ?_)
          obtain ⟨rfl, hw24⟩ := hw24
          refine tp_i (y := iI (4 * (A 0 12) + x2)) (congrArg iI (show z22 = 4 * (A 0 12) + x2 by omega)) ?_
          clear hw24 z22
          refine x_mulv (v := 40 * (A 0 12) + 10 * x2) hx hb dX12_closed_64 (by omega) ?_
          refine lv_aload_n hx hb dX12_closed_65 rfl (lv_at hl 0 rfl) ?_
          refine va_get (D := (dC, dI)) (ci := 12) (v := .ref (q 14)) (C := RX12) (T := TX12) (N := 85) hx hb hts hiX12 hown hK hP 0 wm0 rfl 25 (by decide) (hts _ (List.mem_cons_of_mem _ (wl_in_2 _ (List.mem_of_getElem? (i := 59) rfl)))) (fun _ h9 => h9) rfl dX12_closed_66 ?_
          refine lv_aload_n hx hb dX12_closed_69 rfl (lv_at hl 0 rfl) ?_
          refine lv_iload_n hx hb dX12_closed_70 rfl (lv_at hl 2 rfl) ?_
          refine x_calli (As := [.int (iI x2)]) (rest := [.ref (q 14), .int (iI (40 * (A 0 12) + 10 * x2)), .ref (q 15)]) ⟨hx, hb, hml, hown, hts⟩ (mc_X12_key4 l dC dI cB cI cJ cZ cQ q _ x2 hI hx2) (cwV 1 hts (goodV (wl_in_4 _ (List.mem_of_getElem? (i := 44) rfl)) (wl_in_4 _ (List.mem_of_getElem? (i := 45) rfl)) (wl_in_4 _ (List.mem_of_getElem? (i := 46) rfl)) (wl_in_0 _ (List.mem_of_getElem? (i := 8) rfl)) (wl_in_4 _ (List.mem_of_getElem? (i := 41) rfl))) rfl rfl rfl (by decide +kernel) ⟨Nat.le_of_ble_eq_true rfl, Nat.le_of_ble_eq_true rfl⟩) hK hDD hA0 hP hS 0 12 wm0 rfl rfl hl.1 (Nat.le_of_ble_eq_true rfl) dX12_closed_71 (fun z25 A26 H locs hw27 hP hS => ?_)
          obtain ⟨rfl, hw27⟩ := hw27
          refine tp_i (y := iI (4 * (A 0 12) + x2)) (congrArg iI (show z25 = 4 * (A 0 12) + x2 by omega)) ?_
          clear hw27 z25
          refine x_iald hx hb hK hP 14 1 wm14 rfl (by omega) (by decide) dX12_closed_74 (fun z28 hz28 => ?_)
          have rz28 : (0 : Int) ≤ z28 ∧ z28 ≤ 6 := by rw [hz28]; exact hI 14 _
          have hz28 : z28 = A 14 (4 * (A 0 12) + x2).toNat := hz28
          have ez28 : z28 = z20 := hz28.trans hz20.symm
          refine x_addv (v := 40 * (A 0 12) + 10 * x2 + z28) hx hb dX12_closed_75 (by omega) ?_
          refine lv_iload_n hx hb dX12_closed_76 rfl (lv_at hl 3 rfl) ?_
          refine x_iast hx hb hK hP hDD hS 15 1 wm15 rfl (by omega) (by decide) dX12_closed_77 ws15 (fun H locs hP hS => ?_)
          have hI := hI.st (j := 15) (i := (40 * (A 0 12) + 10 * x2 + z28).toNat) (v := x3) (show (0 : Int) ≤ x3 ∧ x3 ≤ 9 from (by omega))
          refine lv_aload_n hx hb dX12_closed_78 rfl (lv_at hl 0 rfl) ?_
          refine va_get (D := (dC, dI)) (ci := 12) (v := .ref (q 14)) (C := RX12) (T := TX12) (N := 85) hx hb hts hiX12 hown hK hP 0 wm0 rfl 25 (by decide) (hts _ (List.mem_cons_of_mem _ (wl_in_2 _ (List.mem_of_getElem? (i := 59) rfl)))) (fun _ h9 => h9) rfl dX12_closed_79 ?_
          refine lv_aload_n hx hb dX12_closed_82 rfl (lv_at hl 0 rfl) ?_
          refine lv_iload_n hx hb dX12_closed_83 rfl (lv_at hl 2 rfl) ?_
          obtain ⟨A29, hA29⟩ : ∃ A29 : St, A29 = (stA A 15 (40 * (A 0 12) + 10 * x2 + z28).toNat x3) := ⟨_, rfl⟩
          rw [← hA29] at hP hI
          have e_A29_12 : A29 0 12 = (A 0 12) := by rw [hA29]; exact rfl
          refine x_calli (As := [.int (iI x2)]) (rest := [.ref (q 14)]) ⟨hx, hb, hml, hown, hts⟩ (mc_X12_key4 l dC dI cB cI cJ cZ cQ q _ x2 hI hx2) (cwV 1 hts (goodV (wl_in_4 _ (List.mem_of_getElem? (i := 44) rfl)) (wl_in_4 _ (List.mem_of_getElem? (i := 45) rfl)) (wl_in_4 _ (List.mem_of_getElem? (i := 46) rfl)) (wl_in_0 _ (List.mem_of_getElem? (i := 8) rfl)) (wl_in_4 _ (List.mem_of_getElem? (i := 41) rfl))) rfl rfl rfl (by decide +kernel) ⟨Nat.le_of_ble_eq_true rfl, Nat.le_of_ble_eq_true rfl⟩) hK hDD hA0 hP hS 0 12 wm0 rfl rfl hl.1 (Nat.le_of_ble_eq_true rfl) dX12_closed_84 (fun z30 A31 H locs hw32 hP hS => ?_)
          obtain ⟨rfl, hw32⟩ := hw32
          refine tp_i (y := iI (4 * (A 0 12) + x2)) (congrArg iI (show z30 = 4 * (A 0 12) + x2 by omega)) ?_
          clear hw32 z30
          refine lv_dup2_11 hx hb dX12_closed_87 rfl rfl ?_
          have a_A29_14 : A29 14 = A 14 := by rw [hA29]; exact rfl
          refine x_iald hx hb hK hP 14 1 wm14 rfl (by omega) (by decide) dX12_closed_88 (fun z33 hz33 => ?_)
          have rz33 : (0 : Int) ≤ z33 ∧ z33 ≤ 6 := by rw [hz33]; exact hI 14 _
          have hz33 : z33 = A 14 (4 * (A 0 12) + x2).toNat := hz33.trans (congrFun a_A29_14 _)
          have ez33 : z33 = z20 := hz33.trans hz20.symm
          refine lv_iconst (v := iI 1) hx hb dX12_closed_89 (by decide +kernel) ?_
          refine x_addv (v := z33 + 1) hx hb dX12_closed_90 (by omega) ?_
          refine x_iast hx hb hK hP hDD hS 14 1 wm14 rfl (by omega) (by decide) dX12_closed_91 ws14 (fun H locs hP hS => ?_)
          have hI := hI.st (j := 14) (i := (4 * (A 0 12) + x2).toNat) (v := z33 + 1) (show (0 : Int) ≤ z33 + 1 ∧ z33 + 1 ≤ 6 from (by omega))
          refine lv_aload_n hx hb dX12_closed_92 rfl (lv_at hl 0 rfl) ?_
          refine va_get (D := (dC, dI)) (ci := 12) (v := .ref (q 14)) (C := RX12) (T := TX12) (N := 85) hx hb hts hiX12 hown hK hP 0 wm0 rfl 25 (by decide) (hts _ (List.mem_cons_of_mem _ (wl_in_2 _ (List.mem_of_getElem? (i := 59) rfl)))) (fun _ h9 => h9) rfl dX12_closed_93 ?_
          refine lv_aload_n hx hb dX12_closed_96 rfl (lv_at hl 0 rfl) ?_
          refine lv_iload_n hx hb dX12_closed_97 rfl (lv_at hl 2 rfl) ?_
          obtain ⟨A34, hA34⟩ : ∃ A34 : St, A34 = (stA A29 14 (4 * (A 0 12) + x2).toNat (z33 + 1)) := ⟨_, rfl⟩
          rw [← hA34] at hP hI
          have e_A34_12 : A34 0 12 = (A 0 12) := by rw [hA34]; exact e_A29_12
          refine x_calli (As := [.int (iI x2)]) (rest := [.ref (q 14)]) ⟨hx, hb, hml, hown, hts⟩ (mc_X12_key4 l dC dI cB cI cJ cZ cQ q _ x2 hI hx2) (cwV 1 hts (goodV (wl_in_4 _ (List.mem_of_getElem? (i := 44) rfl)) (wl_in_4 _ (List.mem_of_getElem? (i := 45) rfl)) (wl_in_4 _ (List.mem_of_getElem? (i := 46) rfl)) (wl_in_0 _ (List.mem_of_getElem? (i := 8) rfl)) (wl_in_4 _ (List.mem_of_getElem? (i := 41) rfl))) rfl rfl rfl (by decide +kernel) ⟨Nat.le_of_ble_eq_true rfl, Nat.le_of_ble_eq_true rfl⟩) hK hDD hA0 hP hS 0 12 wm0 rfl rfl hl.1 (Nat.le_of_ble_eq_true rfl) dX12_closed_98 (fun z35 A36 H locs hw37 hP hS => ?_)
          obtain ⟨rfl, hw37⟩ := hw37
          refine tp_i (y := iI (4 * (A 0 12) + x2)) (congrArg iI (show z35 = 4 * (A 0 12) + x2 by omega)) ?_
          clear hw37 z35
          refine x_iald hx hb hK hP 14 1 wm14 rfl (by omega) (by decide) dX12_closed_101 (fun z38 hz38 => ?_)
          have rz38 : (0 : Int) ≤ z38 ∧ z38 ≤ 6 := by rw [hz38]; exact hI 14 _
          clear hz38
          exact RET z38 _ _ _ _ _ ⟨hI, fr_def hA34 (fr.st (fr_def hA29 (fr.st (fr.rf) (by decide) rfl)) (by decide) rfl), by omega⟩ hP hS dX12_closed_102
        · have c21 : z20 = 6 := (i_eq (rb rz20 (by decide) (by decide)) ⟨by decide, by decide⟩).mp c21
          refine lv_iconst (v := iI (-1)) hx hb dX12_closed_51 (by decide +kernel) ?_
          exact RET (-1) _ _ _ _ _ ⟨hI, fr.rf, by omega⟩ hP hS dX12_closed_52

def ws_mc_X12_open : List Cond := .code yX12_open cX12_open 4 (some .int) :: WX
set_option maxHeartbeats 4000000 in
set_option maxRecDepth 100000 in
theorem mc_X12_open (l : Launch) (dC : Nat → ClassId) (dI : Nat → Nat → Nat) (cB cI cJ cZ cQ : ClassId) (q : Nat → Nat) (A : St) (x1 x2 : Int) (hI : IM A) (hx1 : (-2147483648 : Int) ≤ x1 ∧ x1 ≤ 2147483647) (hx2 : (-2147483648 : Int) ≤ x2 ∧ x2 ≤ 2147483647) : XMi l yX12_open ws_mc_X12_open ({ frames := 3, cells := 0, slots := 0, locals := 66 } : Room) (dC, dI) (tyA cB cI cJ cZ cQ) (WM cI cJ cZ q) A [.ref (q 0), .int (iI x1), .int (iI x2)] (fun z u => IM u ∧ fr [14, 41] [] A u ∧ (-2147483648 ≤ z ∧ z ≤ 2147483647)) := by
  refine x_meti (cc := cX12_open) (maxL := 4) WM_adr (by decide +kernel) rfl (Nat.le_of_ble_eq_true rfl) (fun p e s m below meth c Q AS ls hx hb hml hown hts hK hDD hA0 hP hS hl RET => ?_)
  have hown : s.vm.findClass RX12 = some m.cls := hown
  have hl : lv_has ls 4 [(0, .ref (q 0)), (1, .int (iI x1)), (2, .int (iI x2))] := hl
  obtain ⟨H, hHe⟩ : ∃ H : Heap, H = s.heap := ⟨_, rfl⟩
  rw [← hHe] at hP
  have hS : va_S AS s.heap H [] := by rw [hHe]; exact hS
  suffices hgo : ∀ locs : List Loc, va_S AS s.heap H locs → W p l e (headSpec ws_mc_X12_open ({ frames := 3, cells := 0, slots := 0, locals := 66 } : Room)).room s m [.ref (q 0), .int (iI x1), .int (iI x2)].toArray below meth c H locs 0 0 Q (F0 m 0 ls []) by
    have := hgo [] hS
    rw [hHe] at this
    exact this
  clear hS hHe
  intro locs hS
  refine lv_aload_n hx hb dX12_open_0 rfl (lv_at hl 0 rfl) ?_
  refine lv_iload_n hx hb dX12_open_1 rfl (lv_at hl 1 rfl) ?_
  have r_A_0_12 : (0 : Int) ≤ (A 0 12) ∧ (A 0 12) ≤ 1 := hI 0 12
  refine x_calli (As := [.int (iI x1)]) (rest := []) ⟨hx, hb, hml, hown, hts⟩ (mc_X12_isPersonB l dC dI cB cI cJ cZ cQ q _ x1 hI hx1) (cwV 1 hts (goodV (wl_in_5 _ (List.mem_of_getElem? (i := 55) rfl)) (wl_in_5 _ (List.mem_of_getElem? (i := 56) rfl)) (wl_in_5 _ (List.mem_of_getElem? (i := 57) rfl)) (wl_in_0 _ (List.mem_of_getElem? (i := 8) rfl)) (wl_in_4 _ (List.mem_of_getElem? (i := 40) rfl))) rfl rfl rfl (by decide +kernel) ⟨Nat.le_of_ble_eq_true rfl, Nat.le_of_ble_eq_true rfl⟩) hK hDD hA0 hP hS 0 12 wm0 rfl rfl hl.1 (Nat.le_of_ble_eq_true rfl) dX12_open_2 (fun z1 A2 H locs hw3 hP hS => ?_)
  obtain ⟨rfl, hw3⟩ := hw3
  have rz1 : 0 ≤ z1 ∧ z1 ≤ 1 := hw3.1
  have J26_6 : ∀ (z16 : Int) (A18 : St) (H : Heap) (locs : List Loc) (ls : Array Slot), (-1 ≤ z16 ∧ z16 ≤ 9) → IM A18 → fr [14] [] A A18 → va_P (dC, dI) vwCl (WM cI cJ cZ q A18) H → va_S AS s.heap H locs → lv_has ls 4 [(0, .ref (q 0)), (1, .int (iI x1)), (2, .int (iI x2))] → W p l e (headSpec ws_mc_X12_open ({ frames := 3, cells := 0, slots := 0, locals := 66 } : Room)).room s m [.ref (q 0), .int (iI x1), .int (iI x2)].toArray below meth c H locs 0 0 Q (F0 m 26 ls [.int (iI z16)]) := by
    intro z16 A18 H locs ls f19 hI hj17 hP hS hl
    clear hw3
    refine lv_istore_n (lv' := [(3, .int (iI z16)), (0, .ref (q 0)), (1, .int (iI x1)), (2, .int (iI x2))]) hx hb dX12_open_26 rfl hl (by decide) rfl (fun ls hl => ?_)
    refine lv_iload_n hx hb dX12_open_27 rfl (lv_at hl 0 rfl) ?_
    refine lv_iconst (v := iI (-1)) hx hb dX12_open_28 (by decide +kernel) ?_
    refine lv_icmp_ne (tgt := 40) hx hb dX12_open_29 (by decide) (fun c20 => ?_) (fun c20 => ?_)
    · have c20 : ¬ z16 = (-1) := mt (i_eq (rb f19 (by decide) (by decide)) ⟨by decide, by decide⟩).mpr c20
      refine lv_iload_n hx hb dX12_open_40 rfl (lv_at hl 0 rfl) ?_
      exact RET z16 _ _ _ _ _ ⟨hI, fr.trans (fr.rf) hj17 rfl rfl, by omega⟩ hP hS dX12_open_41
    · have c20 : z16 = (-1) := (i_eq (rb f19 (by decide) (by decide)) ⟨by decide, by decide⟩).mp c20
      refine lv_aload_n hx hb dX12_open_32 rfl (lv_at hl 1 rfl) ?_
      refine lv_iconst (v := iI 2) hx hb dX12_open_33 (by decide +kernel) ?_
      refine x_calli (As := [.int (iI 2)]) (rest := []) ⟨hx, hb, hml, hown, hts⟩ (mc_X12_refuses l dC dI cB cI cJ cZ cQ q _ 2 hI ⟨by decide, by decide⟩) (cwV 1 hts (goodV (wl_in_0 _ (List.mem_of_getElem? (i := 5) rfl)) (wl_in_0 _ (List.mem_of_getElem? (i := 6) rfl)) (wl_in_0 _ (List.mem_of_getElem? (i := 7) rfl)) (wl_in_0 _ (List.mem_of_getElem? (i := 8) rfl)) (wl_in_0 _ (List.mem_of_getElem? (i := 9) rfl))) rfl rfl rfl (by decide +kernel) ⟨Nat.le_of_ble_eq_true rfl, Nat.le_of_ble_eq_true rfl⟩) hK hDD hA0 hP hS 0 12 wm0 rfl rfl hl.1 (Nat.le_of_ble_eq_true rfl) dX12_open_34 (fun z21 A22 H locs hw23 hP hS => ?_)
      obtain ⟨_, hI, hf24, hw23⟩ := hw23
      refine lv_goto (tgt := 41) hx hb dX12_open_37 (by decide) ?_
      exact RET z21 _ _ _ _ _ ⟨hI, fr.trans (fr.trans (fr.rf) hj17 rfl rfl) hf24 rfl rfl, by omega⟩ hP hS dX12_open_41
  have J25_5 : ∀ (H : Heap) (locs : List Loc) (ls : Array Slot), va_P (dC, dI) vwCl (WM cI cJ cZ q A) H → va_S AS s.heap H locs → lv_has ls 4 [(0, .ref (q 0)), (1, .int (iI x1)), (2, .int (iI x2))] → W p l e (headSpec ws_mc_X12_open ({ frames := 3, cells := 0, slots := 0, locals := 66 } : Room)).room s m [.ref (q 0), .int (iI x1), .int (iI x2)].toArray below meth c H locs 0 0 Q (F0 m 25 ls []) := by
    intro H locs ls hP hS hl
    clear hw3
    refine lv_iconst (v := iI (-1)) hx hb dX12_open_25 (by decide +kernel) ?_
    exact J26_6 (-1) _ _ _ _ (by omega) hI (fr.rf) hP hS (lv_sub hl [0, 1, 2] rfl)
  refine lv_if_eq (tgt := 25) hx hb dX12_open_5 (by decide) (fun c4 => ?_) (fun c4 => ?_)
  · have c4 : z1 = 0 := (i_eq0 (rb rz1 (by decide) (by decide))).mp c4
    clear hw3
    exact J25_5 _ _ _ hP hS (lv_sub hl [0, 1, 2] rfl)
  · have c4 : ¬ z1 = 0 := mt (i_eq0 (rb rz1 (by decide) (by decide))).mpr c4
    have hw3b := hw3.2.mp (by omega)
    clear hw3
    refine lv_aload_n hx hb dX12_open_8 rfl (lv_at hl 0 rfl) ?_
    refine lv_iload_n hx hb dX12_open_9 rfl (lv_at hl 2 rfl) ?_
    refine x_calli (As := [.int (iI x2)]) (rest := []) ⟨hx, hb, hml, hown, hts⟩ (mc_X12_isKeyB l dC dI cB cI cJ cZ cQ q _ x2 hI hx2) (cwV 1 hts (goodV (wl_in_5 _ (List.mem_of_getElem? (i := 18) rfl)) (wl_in_5 _ (List.mem_of_getElem? (i := 19) rfl)) (wl_in_5 _ (List.mem_of_getElem? (i := 20) rfl)) (wl_in_0 _ (List.mem_of_getElem? (i := 8) rfl)) (wl_in_4 _ (List.mem_of_getElem? (i := 39) rfl))) rfl rfl rfl (by decide +kernel) ⟨Nat.le_of_ble_eq_true rfl, Nat.le_of_ble_eq_true rfl⟩) hK hDD hA0 hP hS 0 12 wm0 rfl rfl hl.1 (Nat.le_of_ble_eq_true rfl) dX12_open_10 (fun z7 A8 H locs hw9 hP hS => ?_)
    obtain ⟨rfl, hw9⟩ := hw9
    have rz7 : 0 ≤ z7 ∧ z7 ≤ 1 := hw9.1
    refine lv_if_eq (tgt := 25) hx hb dX12_open_13 (by decide) (fun c10 => ?_) (fun c10 => ?_)
    · have c10 : z7 = 0 := (i_eq0 (rb rz7 (by decide) (by decide))).mp c10
      clear hw9
      exact J25_5 _ _ _ hP hS (lv_sub hl [0, 1, 2] rfl)
    · have c10 : ¬ z7 = 0 := mt (i_eq0 (rb rz7 (by decide) (by decide))).mpr c10
      have hw9b := hw9.2.mp (by omega)
      clear hw9
      refine lv_aload_n hx hb dX12_open_16 rfl (lv_at hl 0 rfl) ?_
      refine lv_iload_n hx hb dX12_open_17 rfl (lv_at hl 1 rfl) ?_
      refine lv_iload_n hx hb dX12_open_18 rfl (lv_at hl 2 rfl) ?_
      refine x_calli (As := [.int (iI x1), .int (iI x2)]) (rest := []) ⟨hx, hb, hml, hown, hts⟩ (mc_X12_opened l dC dI cB cI cJ cZ cQ q _ x1 x2 hI (by omega) (by omega)) (cwV 2 hts (goodV (wl_in_6 _ (List.mem_of_getElem? (i := 2) rfl)) (wl_in_6 _ (List.mem_of_getElem? (i := 3) rfl)) (wl_in_6 _ (List.mem_of_getElem? (i := 4) rfl)) (wl_in_0 _ (List.mem_of_getElem? (i := 8) rfl)) (wl_in_5 _ (List.mem_of_getElem? (i := 52) rfl))) rfl rfl rfl (by decide +kernel) ⟨Nat.le_of_ble_eq_true rfl, Nat.le_of_ble_eq_true rfl⟩) hK hDD hA0 hP hS 0 12 wm0 rfl rfl hl.1 (Nat.le_of_ble_eq_true rfl) dX12_open_19 (fun z11 A12 H locs hw13 hP hS => ?_)
      obtain ⟨hI, hf14, hw13⟩ := hw13
      refine lv_goto (tgt := 26) hx hb dX12_open_22 (by decide) ?_
      exact J26_6 z11 _ _ _ _ (by omega) hI (fr.trans (fr.rf) hf14 rfl rfl) hP hS (lv_sub hl [0, 1, 2] rfl)

def ws_mc_X12_shut : List Cond := .code yX12_shut cX12_shut 5 (some .int) :: WX
set_option maxHeartbeats 4000000 in
set_option maxRecDepth 100000 in
theorem mc_X12_shut (l : Launch) (dC : Nat → ClassId) (dI : Nat → Nat → Nat) (cB cI cJ cZ cQ : ClassId) (q : Nat → Nat) (A : St) (x1 x2 x3 : Int) (hI : IM A) (hx1 : (-2147483648 : Int) ≤ x1 ∧ x1 ≤ 2147483647) (hx2 : (-2147483648 : Int) ≤ x2 ∧ x2 ≤ 2147483647) (hx3 : (-2147483648 : Int) ≤ x3 ∧ x3 ≤ 2147483647) : XMi l yX12_shut ws_mc_X12_shut ({ frames := 3, cells := 0, slots := 0, locals := 68 } : Room) (dC, dI) (tyA cB cI cJ cZ cQ) (WM cI cJ cZ q) A [.ref (q 0), .int (iI x1), .int (iI x2), .int (iI x3)] (fun z u => IM u ∧ fr [14, 15, 41] [] A u ∧ (-2147483648 ≤ z ∧ z ≤ 2147483647)) := by
  refine x_meti (cc := cX12_shut) (maxL := 5) WM_adr (by decide +kernel) rfl (Nat.le_of_ble_eq_true rfl) (fun p e s m below meth c Q AS ls hx hb hml hown hts hK hDD hA0 hP hS hl RET => ?_)
  have hown : s.vm.findClass RX12 = some m.cls := hown
  have hl : lv_has ls 5 [(0, .ref (q 0)), (1, .int (iI x1)), (2, .int (iI x2)), (3, .int (iI x3))] := hl
  obtain ⟨H, hHe⟩ : ∃ H : Heap, H = s.heap := ⟨_, rfl⟩
  rw [← hHe] at hP
  have hS : va_S AS s.heap H [] := by rw [hHe]; exact hS
  suffices hgo : ∀ locs : List Loc, va_S AS s.heap H locs → W p l e (headSpec ws_mc_X12_shut ({ frames := 3, cells := 0, slots := 0, locals := 68 } : Room)).room s m [.ref (q 0), .int (iI x1), .int (iI x2), .int (iI x3)].toArray below meth c H locs 0 0 Q (F0 m 0 ls []) by
    have := hgo [] hS
    rw [hHe] at this
    exact this
  clear hS hHe
  intro locs hS
  refine lv_aload_n hx hb dX12_shut_0 rfl (lv_at hl 0 rfl) ?_
  refine lv_iload_n hx hb dX12_shut_1 rfl (lv_at hl 1 rfl) ?_
  have r_A_0_12 : (0 : Int) ≤ (A 0 12) ∧ (A 0 12) ≤ 1 := hI 0 12
  refine x_calli (As := [.int (iI x1)]) (rest := []) ⟨hx, hb, hml, hown, hts⟩ (mc_X12_isPersonB l dC dI cB cI cJ cZ cQ q _ x1 hI hx1) (cwV 1 hts (goodV (wl_in_5 _ (List.mem_of_getElem? (i := 55) rfl)) (wl_in_5 _ (List.mem_of_getElem? (i := 56) rfl)) (wl_in_5 _ (List.mem_of_getElem? (i := 57) rfl)) (wl_in_0 _ (List.mem_of_getElem? (i := 8) rfl)) (wl_in_4 _ (List.mem_of_getElem? (i := 40) rfl))) rfl rfl rfl (by decide +kernel) ⟨Nat.le_of_ble_eq_true rfl, Nat.le_of_ble_eq_true rfl⟩) hK hDD hA0 hP hS 0 12 wm0 rfl rfl hl.1 (Nat.le_of_ble_eq_true rfl) dX12_shut_2 (fun z1 A2 H locs hw3 hP hS => ?_)
  obtain ⟨rfl, hw3⟩ := hw3
  have rz1 : 0 ≤ z1 ∧ z1 ≤ 1 := hw3.1
  have J35_6 : ∀ (z20 : Int) (A22 : St) (H : Heap) (locs : List Loc) (ls : Array Slot), (-2147483648 ≤ z20 ∧ z20 ≤ 2147483647) → IM A22 → fr [14, 15] [] A A22 → va_P (dC, dI) vwCl (WM cI cJ cZ q A22) H → va_S AS s.heap H locs → lv_has ls 5 [(0, .ref (q 0)), (1, .int (iI x1)), (2, .int (iI x2)), (3, .int (iI x3))] → W p l e (headSpec ws_mc_X12_shut ({ frames := 3, cells := 0, slots := 0, locals := 68 } : Room)).room s m [.ref (q 0), .int (iI x1), .int (iI x2), .int (iI x3)].toArray below meth c H locs 0 0 Q (F0 m 35 ls [.int (iI z20)]) := by
    intro z20 A22 H locs ls f23 hI hj21 hP hS hl
    clear hw3
    refine lv_istore (lv' := [(4, .int (iI z20)), (0, .ref (q 0)), (1, .int (iI x1)), (2, .int (iI x2)), (3, .int (iI x3))]) hx hb dX12_shut_35 hl (by decide) rfl (fun ls hl => ?_)
    refine lv_iload hx hb dX12_shut_37 (lv_at hl 0 rfl) ?_
    refine lv_iconst (v := iI (-1)) hx hb dX12_shut_39 (by decide +kernel) ?_
    refine lv_icmp_ne (tgt := 51) hx hb dX12_shut_40 (by decide) (fun c24 => ?_) (fun c24 => ?_)
    · have c24 : ¬ z20 = (-1) := mt (i_eq f23 ⟨by decide, by decide⟩).mpr c24
      refine lv_iload hx hb dX12_shut_51 (lv_at hl 0 rfl) ?_
      exact RET z20 _ _ _ _ _ ⟨hI, fr.trans (fr.rf) hj21 rfl rfl, by omega⟩ hP hS dX12_shut_53
    · have c24 : z20 = (-1) := (i_eq f23 ⟨by decide, by decide⟩).mp c24
      refine lv_aload_n hx hb dX12_shut_43 rfl (lv_at hl 1 rfl) ?_
      refine lv_iconst (v := iI 2) hx hb dX12_shut_44 (by decide +kernel) ?_
      refine x_calli (As := [.int (iI 2)]) (rest := []) ⟨hx, hb, hml, hown, hts⟩ (mc_X12_refuses l dC dI cB cI cJ cZ cQ q _ 2 hI ⟨by decide, by decide⟩) (cwV 1 hts (goodV (wl_in_0 _ (List.mem_of_getElem? (i := 5) rfl)) (wl_in_0 _ (List.mem_of_getElem? (i := 6) rfl)) (wl_in_0 _ (List.mem_of_getElem? (i := 7) rfl)) (wl_in_0 _ (List.mem_of_getElem? (i := 8) rfl)) (wl_in_0 _ (List.mem_of_getElem? (i := 9) rfl))) rfl rfl rfl (by decide +kernel) ⟨Nat.le_of_ble_eq_true rfl, Nat.le_of_ble_eq_true rfl⟩) hK hDD hA0 hP hS 0 12 wm0 rfl rfl hl.1 (Nat.le_of_ble_eq_true rfl) dX12_shut_45 (fun z25 A26 H locs hw27 hP hS => ?_)
      obtain ⟨_, hI, hf28, hw27⟩ := hw27
      refine lv_goto (tgt := 53) hx hb dX12_shut_48 (by decide) ?_
      exact RET z25 _ _ _ _ _ ⟨hI, fr.trans (fr.trans (fr.rf) hj21 rfl rfl) hf28 rfl rfl, by omega⟩ hP hS dX12_shut_53
  have J34_5 : ∀ (H : Heap) (locs : List Loc) (ls : Array Slot), va_P (dC, dI) vwCl (WM cI cJ cZ q A) H → va_S AS s.heap H locs → lv_has ls 5 [(0, .ref (q 0)), (1, .int (iI x1)), (2, .int (iI x2)), (3, .int (iI x3))] → W p l e (headSpec ws_mc_X12_shut ({ frames := 3, cells := 0, slots := 0, locals := 68 } : Room)).room s m [.ref (q 0), .int (iI x1), .int (iI x2), .int (iI x3)].toArray below meth c H locs 0 0 Q (F0 m 34 ls []) := by
    intro H locs ls hP hS hl
    clear hw3
    refine lv_iconst (v := iI (-1)) hx hb dX12_shut_34 (by decide +kernel) ?_
    exact J35_6 (-1) _ _ _ _ (by omega) hI (fr.rf) hP hS (lv_sub hl [0, 1, 2, 3] rfl)
  refine lv_if_eq (tgt := 34) hx hb dX12_shut_5 (by decide) (fun c4 => ?_) (fun c4 => ?_)
  · have c4 : z1 = 0 := (i_eq0 (rb rz1 (by decide) (by decide))).mp c4
    clear hw3
    exact J34_5 _ _ _ hP hS (lv_sub hl [0, 1, 2, 3] rfl)
  · have c4 : ¬ z1 = 0 := mt (i_eq0 (rb rz1 (by decide) (by decide))).mpr c4
    have hw3b := hw3.2.mp (by omega)
    clear hw3
    refine lv_aload_n hx hb dX12_shut_8 rfl (lv_at hl 0 rfl) ?_
    refine lv_iload_n hx hb dX12_shut_9 rfl (lv_at hl 2 rfl) ?_
    refine x_calli (As := [.int (iI x2)]) (rest := []) ⟨hx, hb, hml, hown, hts⟩ (mc_X12_isKeyB l dC dI cB cI cJ cZ cQ q _ x2 hI hx2) (cwV 1 hts (goodV (wl_in_5 _ (List.mem_of_getElem? (i := 18) rfl)) (wl_in_5 _ (List.mem_of_getElem? (i := 19) rfl)) (wl_in_5 _ (List.mem_of_getElem? (i := 20) rfl)) (wl_in_0 _ (List.mem_of_getElem? (i := 8) rfl)) (wl_in_4 _ (List.mem_of_getElem? (i := 39) rfl))) rfl rfl rfl (by decide +kernel) ⟨Nat.le_of_ble_eq_true rfl, Nat.le_of_ble_eq_true rfl⟩) hK hDD hA0 hP hS 0 12 wm0 rfl rfl hl.1 (Nat.le_of_ble_eq_true rfl) dX12_shut_10 (fun z7 A8 H locs hw9 hP hS => ?_)
    obtain ⟨rfl, hw9⟩ := hw9
    have rz7 : 0 ≤ z7 ∧ z7 ≤ 1 := hw9.1
    refine lv_if_eq (tgt := 34) hx hb dX12_shut_13 (by decide) (fun c10 => ?_) (fun c10 => ?_)
    · have c10 : z7 = 0 := (i_eq0 (rb rz7 (by decide) (by decide))).mp c10
      clear hw9
      exact J34_5 _ _ _ hP hS (lv_sub hl [0, 1, 2, 3] rfl)
    · have c10 : ¬ z7 = 0 := mt (i_eq0 (rb rz7 (by decide) (by decide))).mpr c10
      have hw9b := hw9.2.mp (by omega)
      clear hw9
      refine lv_aload_n hx hb dX12_shut_16 rfl (lv_at hl 0 rfl) ?_
      refine lv_iload_n hx hb dX12_shut_17 rfl (lv_at hl 3 rfl) ?_
      refine x_calli (As := [.int (iI x3)]) (rest := []) ⟨hx, hb, hml, hown, hts⟩ (mc_X12_isDoorB l dC dI cB cI cJ cZ cQ q _ x3 hI hx3) (cwV 1 hts (goodV (wl_in_5 _ (List.mem_of_getElem? (i := 14) rfl)) (wl_in_5 _ (List.mem_of_getElem? (i := 15) rfl)) (wl_in_5 _ (List.mem_of_getElem? (i := 16) rfl)) (wl_in_0 _ (List.mem_of_getElem? (i := 8) rfl)) (wl_in_4 _ (List.mem_of_getElem? (i := 38) rfl))) rfl rfl rfl (by decide +kernel) ⟨Nat.le_of_ble_eq_true rfl, Nat.le_of_ble_eq_true rfl⟩) hK hDD hA0 hP hS 0 12 wm0 rfl rfl hl.1 (Nat.le_of_ble_eq_true rfl) dX12_shut_18 (fun z11 A12 H locs hw13 hP hS => ?_)
      obtain ⟨rfl, hw13⟩ := hw13
      have rz11 : 0 ≤ z11 ∧ z11 ≤ 1 := hw13.1
      refine lv_if_eq (tgt := 34) hx hb dX12_shut_21 (by decide) (fun c14 => ?_) (fun c14 => ?_)
      · have c14 : z11 = 0 := (i_eq0 (rb rz11 (by decide) (by decide))).mp c14
        clear hw13
        exact J34_5 _ _ _ hP hS (lv_sub hl [0, 1, 2, 3] rfl)
      · have c14 : ¬ z11 = 0 := mt (i_eq0 (rb rz11 (by decide) (by decide))).mpr c14
        have hw13b := hw13.2.mp (by omega)
        clear hw13
        refine lv_aload_n hx hb dX12_shut_24 rfl (lv_at hl 0 rfl) ?_
        refine lv_iload_n hx hb dX12_shut_25 rfl (lv_at hl 1 rfl) ?_
        refine lv_iload_n hx hb dX12_shut_26 rfl (lv_at hl 2 rfl) ?_
        refine lv_iload_n hx hb dX12_shut_27 rfl (lv_at hl 3 rfl) ?_
        refine x_calli (As := [.int (iI x1), .int (iI x2), .int (iI x3)]) (rest := []) ⟨hx, hb, hml, hown, hts⟩ (mc_X12_closed l dC dI cB cI cJ cZ cQ q _ x1 x2 x3 hI (by omega) (by omega) (by omega)) (cwV 3 hts (goodV (wl_in_6 _ (List.mem_of_getElem? (i := 6) rfl)) (wl_in_6 _ (List.mem_of_getElem? (i := 7) rfl)) (wl_in_6 _ (List.mem_of_getElem? (i := 8) rfl)) (wl_in_0 _ (List.mem_of_getElem? (i := 8) rfl)) (wl_in_5 _ (List.mem_of_getElem? (i := 53) rfl))) rfl rfl rfl (by decide +kernel) ⟨Nat.le_of_ble_eq_true rfl, Nat.le_of_ble_eq_true rfl⟩) hK hDD hA0 hP hS 0 12 wm0 rfl rfl hl.1 (Nat.le_of_ble_eq_true rfl) dX12_shut_28 (fun z15 A16 H locs hw17 hP hS => ?_)
        obtain ⟨hI, hf18, hw17⟩ := hw17
        refine lv_goto (tgt := 35) hx hb dX12_shut_31 (by decide) ?_
        exact J35_6 z15 _ _ _ _ (by omega) hI (fr.trans (fr.rf) hf18 rfl rfl) hP hS (lv_sub hl [0, 1, 2, 3] rfl)

def ws_mc_X12_lend : List Cond := .code yX12_lend cX12_lend 5 (some .boolean) :: WX
set_option maxHeartbeats 4000000 in
set_option maxRecDepth 100000 in
theorem mc_X12_lend (l : Launch) (dC : Nat → ClassId) (dI : Nat → Nat → Nat) (cB cI cJ cZ cQ : ClassId) (q : Nat → Nat) (A : St) (x1 x2 x3 : Int) (hI : IM A) (hx1 : (-2147483648 : Int) ≤ x1 ∧ x1 ≤ 2147483647) (hx2 : (-2147483648 : Int) ≤ x2 ∧ x2 ≤ 2147483647) (hx3 : (-2147483648 : Int) ≤ x3 ∧ x3 ≤ 2147483647) : XMi l yX12_lend ws_mc_X12_lend ({ frames := 2, cells := 0, slots := 0, locals := 43 } : Room) (dC, dI) (tyA cB cI cJ cZ cQ) (WM cI cJ cZ q) A [.ref (q 0), .int (iI x1), .int (iI x2), .int (iI x3)] (fun z u => IM u ∧ fr [13, 41] [] A u ∧ (0 ≤ z ∧ z ≤ 1)) := by
  refine x_metz (cc := cX12_lend) (maxL := 5) WM_adr (by decide +kernel) rfl (Nat.le_of_ble_eq_true rfl) (fun z u h => h.2.2) (fun p e s m below meth c Q AS ls hx hb hml hown hts hK hDD hA0 hP hS hl RET => ?_)
  have hown : s.vm.findClass RX12 = some m.cls := hown
  have hl : lv_has ls 5 [(0, .ref (q 0)), (1, .int (iI x1)), (2, .int (iI x2)), (3, .int (iI x3))] := hl
  have hiX12 : ∀ w ∈ u_ws RX12 TX12 85, w ∈ ws_mc_X12_lend := fun w h => List.mem_cons_of_mem _ (wx_lay w h)
  obtain ⟨H, hHe⟩ : ∃ H : Heap, H = s.heap := ⟨_, rfl⟩
  rw [← hHe] at hP
  have hS : va_S AS s.heap H [] := by rw [hHe]; exact hS
  suffices hgo : ∀ locs : List Loc, va_S AS s.heap H locs → W p l e (headSpec ws_mc_X12_lend ({ frames := 2, cells := 0, slots := 0, locals := 43 } : Room)).room s m [.ref (q 0), .int (iI x1), .int (iI x2), .int (iI x3)].toArray below meth c H locs 0 0 Q (F0 m 0 ls []) by
    have := hgo [] hS
    rw [hHe] at this
    exact this
  clear hS hHe
  intro locs hS
  refine lv_aload_n hx hb dX12_lend_0 rfl (lv_at hl 0 rfl) ?_
  refine lv_iload_n hx hb dX12_lend_1 rfl (lv_at hl 1 rfl) ?_
  have r_A_0_12 : (0 : Int) ≤ (A 0 12) ∧ (A 0 12) ≤ 1 := hI 0 12
  refine x_calli (As := [.int (iI x1)]) (rest := []) ⟨hx, hb, hml, hown, hts⟩ (mc_X12_isPersonB l dC dI cB cI cJ cZ cQ q _ x1 hI hx1) (cwV 1 hts (goodV (wl_in_5 _ (List.mem_of_getElem? (i := 55) rfl)) (wl_in_5 _ (List.mem_of_getElem? (i := 56) rfl)) (wl_in_5 _ (List.mem_of_getElem? (i := 57) rfl)) (wl_in_0 _ (List.mem_of_getElem? (i := 8) rfl)) (wl_in_4 _ (List.mem_of_getElem? (i := 40) rfl))) rfl rfl rfl (by decide +kernel) ⟨Nat.le_of_ble_eq_true rfl, Nat.le_of_ble_eq_true rfl⟩) hK hDD hA0 hP hS 0 12 wm0 rfl rfl hl.1 (Nat.le_of_ble_eq_true rfl) dX12_lend_2 (fun z1 A2 H locs hw3 hP hS => ?_)
  obtain ⟨rfl, hw3⟩ := hw3
  have rz1 : 0 ≤ z1 ∧ z1 ≤ 1 := hw3.1
  have J34_6 : ∀ (z17 : Int) (H : Heap) (locs : List Loc) (ls : Array Slot), (0 ≤ z17 ∧ z17 ≤ 1) → ((z17 = 1 ∧ ¬ z1 = 0 ∧ ¬ x1 = x3) ∨ (z17 = 0)) → (z17 = 1 → 0 ≤ x1 ∧ x1 ≤ 2 ∧ 0 ≤ x2 ∧ x2 ≤ 3 ∧ 0 ≤ x3 ∧ x3 ≤ 2) → va_P (dC, dI) vwCl (WM cI cJ cZ q A) H → va_S AS s.heap H locs → lv_has ls 5 [(0, .ref (q 0)), (1, .int (iI x1)), (2, .int (iI x2)), (3, .int (iI x3))] → W p l e (headSpec ws_mc_X12_lend ({ frames := 2, cells := 0, slots := 0, locals := 43 } : Room)).room s m [.ref (q 0), .int (iI x1), .int (iI x2), .int (iI x3)].toArray below meth c H locs 0 0 Q (F0 m 34 ls [.int (iI z17)]) := by
    intro z17 H locs ls f19 f20 f21 hP hS hl
    clear hw3
    refine lv_istore (lv' := [(4, .int (iI z17)), (0, .ref (q 0)), (1, .int (iI x1)), (2, .int (iI x2)), (3, .int (iI x3))]) hx hb dX12_lend_34 hl (by decide) rfl (fun ls hl => ?_)
    refine lv_iload hx hb dX12_lend_36 (lv_at hl 0 rfl) ?_
    have J68_23 : ∀ (H : Heap) (locs : List Loc) (ls : Array Slot), va_P (dC, dI) vwCl (WM cI cJ cZ q A) H → va_S AS s.heap H locs → lv_has ls 5 [(4, .int (iI z17)), (0, .ref (q 0)), (1, .int (iI x1)), (2, .int (iI x2)), (3, .int (iI x3))] → W p l e (headSpec ws_mc_X12_lend ({ frames := 2, cells := 0, slots := 0, locals := 43 } : Room)).room s m [.ref (q 0), .int (iI x1), .int (iI x2), .int (iI x3)].toArray below meth c H locs 0 0 Q (F0 m 68 ls []) := by
      intro H locs ls hP hS hl
      clear f21
      refine lv_aload_n hx hb dX12_lend_68 rfl (lv_at hl 1 rfl) ?_
      refine lv_iconst (v := iI 3) hx hb dX12_lend_69 (by decide +kernel) ?_
      refine x_calli (As := [.int (iI 3)]) (rest := []) ⟨hx, hb, hml, hown, hts⟩ (mc_X12_refuses l dC dI cB cI cJ cZ cQ q _ 3 hI ⟨by decide, by decide⟩) (cwV 1 hts (goodV (wl_in_0 _ (List.mem_of_getElem? (i := 5) rfl)) (wl_in_0 _ (List.mem_of_getElem? (i := 6) rfl)) (wl_in_0 _ (List.mem_of_getElem? (i := 7) rfl)) (wl_in_0 _ (List.mem_of_getElem? (i := 8) rfl)) (wl_in_0 _ (List.mem_of_getElem? (i := 9) rfl))) rfl rfl rfl (by decide +kernel) ⟨Nat.le_of_ble_eq_true rfl, Nat.le_of_ble_eq_true rfl⟩) hK hDD hA0 hP hS 0 12 wm0 rfl rfl hl.1 (Nat.le_of_ble_eq_true rfl) dX12_lend_70 (fun z40 A41 H locs hw42 hP hS => ?_)
      obtain ⟨_, hI, hf43, hw42⟩ := hw42
      refine lv_if_lt (tgt := 80) hx hb dX12_lend_73 (by decide) (fun _ => ?_) (fun c44 => False.elim (by have c44 : ¬ z40 < 0 := mt (i_lt0 (by omega)).mpr c44; omega))
      refine lv_iconst (v := iI 0) hx hb dX12_lend_80 (by decide +kernel) ?_
      exact RET 0 _ _ _ _ _ ⟨hI, fr.trans (fr.rf) hf43 rfl rfl, by omega⟩ hP hS dX12_lend_81
    refine lv_if_eq (tgt := 68) hx hb dX12_lend_38 (by decide) (fun c22 => ?_) (fun c22 => ?_)
    · have c22 : z17 = 0 := (i_eq0 (rb f19 (by decide) (by decide))).mp c22
      clear f21
      exact J68_23 _ _ _ hP hS (lv_sub hl [0, 1, 2, 3, 4] rfl)
    · have c22 : ¬ z17 = 0 := mt (i_eq0 (rb f19 (by decide) (by decide))).mpr c22
      have f21b := f21 (by omega)
      clear f21
      refine lv_aload_n hx hb dX12_lend_41 rfl (lv_at hl 1 rfl) ?_
      refine va_get (D := (dC, dI)) (ci := 12) (v := .ref (q 13)) (C := RX12) (T := TX12) (N := 85) hx hb hts hiX12 hown hK hP 0 wm0 rfl 24 (by decide) (hts _ (List.mem_cons_of_mem _ (wl_in_2 _ (List.mem_of_getElem? (i := 58) rfl)))) (fun _ h9 => h9) rfl dX12_lend_42 ?_
      refine lv_aload_n hx hb dX12_lend_45 rfl (lv_at hl 1 rfl) ?_
      refine lv_iload_n hx hb dX12_lend_46 rfl (lv_at hl 3 rfl) ?_
      refine x_calli (As := [.int (iI x2)]) (rest := [.ref (q 13)]) ⟨hx, hb, hml, hown, hts⟩ (mc_X12_key4 l dC dI cB cI cJ cZ cQ q _ x2 hI (by omega)) (cwV 1 hts (goodV (wl_in_4 _ (List.mem_of_getElem? (i := 44) rfl)) (wl_in_4 _ (List.mem_of_getElem? (i := 45) rfl)) (wl_in_4 _ (List.mem_of_getElem? (i := 46) rfl)) (wl_in_0 _ (List.mem_of_getElem? (i := 8) rfl)) (wl_in_4 _ (List.mem_of_getElem? (i := 41) rfl))) rfl rfl rfl (by decide +kernel) ⟨Nat.le_of_ble_eq_true rfl, Nat.le_of_ble_eq_true rfl⟩) hK hDD hA0 hP hS 0 12 wm0 rfl rfl hl.1 (Nat.le_of_ble_eq_true rfl) dX12_lend_47 (fun z24 A25 H locs hw26 hP hS => ?_)
      obtain ⟨rfl, hw26⟩ := hw26
      refine tp_i (y := iI (4 * (A 0 12) + x2)) (congrArg iI (show z24 = 4 * (A 0 12) + x2 by omega)) ?_
      clear hw26 z24
      refine x_iald hx hb hK hP 13 1 wm13 rfl (by omega) (by decide) dX12_lend_50 (fun z27 hz27 => ?_)
      have rz27 : (0 : Int) ≤ z27 ∧ z27 ≤ 40 := by rw [hz27]; exact hI 13 _
      have hz27 : z27 = A 13 (4 * (A 0 12) + x2).toNat := hz27
      refine lv_iload_n hx hb dX12_lend_51 rfl (lv_at hl 2 rfl) ?_
      refine lv_icmp_ne (tgt := 68) hx hb dX12_lend_52 (by decide) (fun c28 => ?_) (fun c28 => ?_)
      · have c28 : ¬ z27 = x1 := mt (i_eq (rb rz27 (by decide) (by decide)) hx1).mpr c28
        exact J68_23 _ _ _ hP hS (lv_sub hl [0, 1, 2, 3, 4] rfl)
      · have c28 : z27 = x1 := (i_eq (rb rz27 (by decide) (by decide)) hx1).mp c28
        refine lv_aload_n hx hb dX12_lend_55 rfl (lv_at hl 1 rfl) ?_
        refine lv_iload_n hx hb dX12_lend_56 rfl (lv_at hl 2 rfl) ?_
        refine x_calli (As := [.int (iI x1)]) (rest := []) ⟨hx, hb, hml, hown, hts⟩ (mc_X12_placeOf l dC dI cB cI cJ cZ cQ q _ x1 hI (by omega)) (cwV 1 hts (goodV (wl_in_5 _ (List.mem_of_getElem? (i := 35) rfl)) (wl_in_5 _ (List.mem_of_getElem? (i := 36) rfl)) (wl_in_5 _ (List.mem_of_getElem? (i := 37) rfl)) (wl_in_0 _ (List.mem_of_getElem? (i := 8) rfl)) (wl_in_5 _ (List.mem_of_getElem? (i := 25) rfl))) rfl rfl rfl (by decide +kernel) ⟨Nat.le_of_ble_eq_true rfl, Nat.le_of_ble_eq_true rfl⟩) hK hDD hA0 hP hS 0 12 wm0 rfl rfl hl.1 (Nat.le_of_ble_eq_true rfl) dX12_lend_57 (fun z29 A30 H locs hw31 hP hS => ?_)
        obtain ⟨rfl, hw31⟩ := hw31
        refine lv_aload_n hx hb dX12_lend_60 rfl (lv_at hl 1 rfl) ?_
        refine lv_iload_n hx hb dX12_lend_61 rfl (lv_at hl 4 rfl) ?_
        refine x_calli (As := [.int (iI x3)]) (rest := [.int (iI z29)]) ⟨hx, hb, hml, hown, hts⟩ (mc_X12_placeOf l dC dI cB cI cJ cZ cQ q _ x3 hI (by omega)) (cwV 1 hts (goodV (wl_in_5 _ (List.mem_of_getElem? (i := 35) rfl)) (wl_in_5 _ (List.mem_of_getElem? (i := 36) rfl)) (wl_in_5 _ (List.mem_of_getElem? (i := 37) rfl)) (wl_in_0 _ (List.mem_of_getElem? (i := 8) rfl)) (wl_in_5 _ (List.mem_of_getElem? (i := 25) rfl))) rfl rfl rfl (by decide +kernel) ⟨Nat.le_of_ble_eq_true rfl, Nat.le_of_ble_eq_true rfl⟩) hK hDD hA0 hP hS 0 12 wm0 rfl rfl hl.1 (Nat.le_of_ble_eq_true rfl) dX12_lend_62 (fun z32 A33 H locs hw34 hP hS => ?_)
        obtain ⟨rfl, hw34⟩ := hw34
        refine lv_icmp_eq (tgt := 82) hx hb dX12_lend_65 (by decide) (fun c35 => ?_) (fun c35 => ?_)
        · have c35 : z29 = z32 := (i_eq (rb hw31 (by decide) (by decide)) (rb hw34 (by decide) (by decide))).mp c35
          refine lv_aload_n hx hb dX12_lend_82 rfl (lv_at hl 1 rfl) ?_
          refine va_get (D := (dC, dI)) (ci := 12) (v := .ref (q 13)) (C := RX12) (T := TX12) (N := 85) hx hb hts hiX12 hown hK hP 0 wm0 rfl 24 (by decide) (hts _ (List.mem_cons_of_mem _ (wl_in_2 _ (List.mem_of_getElem? (i := 58) rfl)))) (fun _ h9 => h9) rfl dX12_lend_83 ?_
          refine lv_aload_n hx hb dX12_lend_86 rfl (lv_at hl 1 rfl) ?_
          refine lv_iload_n hx hb dX12_lend_87 rfl (lv_at hl 3 rfl) ?_
          refine x_calli (As := [.int (iI x2)]) (rest := [.ref (q 13)]) ⟨hx, hb, hml, hown, hts⟩ (mc_X12_key4 l dC dI cB cI cJ cZ cQ q _ x2 hI (by omega)) (cwV 1 hts (goodV (wl_in_4 _ (List.mem_of_getElem? (i := 44) rfl)) (wl_in_4 _ (List.mem_of_getElem? (i := 45) rfl)) (wl_in_4 _ (List.mem_of_getElem? (i := 46) rfl)) (wl_in_0 _ (List.mem_of_getElem? (i := 8) rfl)) (wl_in_4 _ (List.mem_of_getElem? (i := 41) rfl))) rfl rfl rfl (by decide +kernel) ⟨Nat.le_of_ble_eq_true rfl, Nat.le_of_ble_eq_true rfl⟩) hK hDD hA0 hP hS 0 12 wm0 rfl rfl hl.1 (Nat.le_of_ble_eq_true rfl) dX12_lend_88 (fun z36 A37 H locs hw38 hP hS => ?_)
          obtain ⟨rfl, hw38⟩ := hw38
          refine tp_i (y := iI (4 * (A 0 12) + x2)) (congrArg iI (show z36 = 4 * (A 0 12) + x2 by omega)) ?_
          clear hw38 z36
          refine lv_iload_n hx hb dX12_lend_91 rfl (lv_at hl 4 rfl) ?_
          refine x_iast hx hb hK hP hDD hS 13 1 wm13 rfl (by omega) (by decide) dX12_lend_92 ws13 (fun H locs hP hS => ?_)
          have hI := hI.st (j := 13) (i := (4 * (A 0 12) + x2).toNat) (v := x3) (show (0 : Int) ≤ x3 ∧ x3 ≤ 40 from (by omega))
          refine lv_iconst (v := iI 1) hx hb dX12_lend_93 (by decide +kernel) ?_
          exact RET 1 _ _ _ _ _ ⟨hI, fr.st (fr.rf) (by decide) rfl, by omega⟩ hP hS dX12_lend_94
        · have c35 : ¬ z29 = z32 := mt (i_eq (rb hw31 (by decide) (by decide)) (rb hw34 (by decide) (by decide))).mpr c35
          exact J68_23 _ _ _ hP hS (lv_sub hl [0, 1, 2, 3, 4] rfl)
  have J33_5 : ∀ (H : Heap) (locs : List Loc) (ls : Array Slot), va_P (dC, dI) vwCl (WM cI cJ cZ q A) H → va_S AS s.heap H locs → lv_has ls 5 [(0, .ref (q 0)), (1, .int (iI x1)), (2, .int (iI x2)), (3, .int (iI x3))] → W p l e (headSpec ws_mc_X12_lend ({ frames := 2, cells := 0, slots := 0, locals := 43 } : Room)).room s m [.ref (q 0), .int (iI x1), .int (iI x2), .int (iI x3)].toArray below meth c H locs 0 0 Q (F0 m 33 ls []) := by
    intro H locs ls hP hS hl
    clear hw3
    refine lv_iconst (v := iI 0) hx hb dX12_lend_33 (by decide +kernel) ?_
    exact J34_6 0 _ _ _ (by omega) (by omega) (by omega) hP hS (lv_sub hl [0, 1, 2, 3] rfl)
  refine lv_if_eq (tgt := 33) hx hb dX12_lend_5 (by decide) (fun c4 => ?_) (fun c4 => ?_)
  · have c4 : z1 = 0 := (i_eq0 (rb rz1 (by decide) (by decide))).mp c4
    clear hw3
    exact J33_5 _ _ _ hP hS (lv_sub hl [0, 1, 2, 3] rfl)
  · have c4 : ¬ z1 = 0 := mt (i_eq0 (rb rz1 (by decide) (by decide))).mpr c4
    have hw3b := hw3.2.mp (by omega)
    clear hw3
    refine lv_aload_n hx hb dX12_lend_8 rfl (lv_at hl 0 rfl) ?_
    refine lv_iload_n hx hb dX12_lend_9 rfl (lv_at hl 2 rfl) ?_
    refine x_calli (As := [.int (iI x2)]) (rest := []) ⟨hx, hb, hml, hown, hts⟩ (mc_X12_isKeyB l dC dI cB cI cJ cZ cQ q _ x2 hI hx2) (cwV 1 hts (goodV (wl_in_5 _ (List.mem_of_getElem? (i := 18) rfl)) (wl_in_5 _ (List.mem_of_getElem? (i := 19) rfl)) (wl_in_5 _ (List.mem_of_getElem? (i := 20) rfl)) (wl_in_0 _ (List.mem_of_getElem? (i := 8) rfl)) (wl_in_4 _ (List.mem_of_getElem? (i := 39) rfl))) rfl rfl rfl (by decide +kernel) ⟨Nat.le_of_ble_eq_true rfl, Nat.le_of_ble_eq_true rfl⟩) hK hDD hA0 hP hS 0 12 wm0 rfl rfl hl.1 (Nat.le_of_ble_eq_true rfl) dX12_lend_10 (fun z7 A8 H locs hw9 hP hS => ?_)
    obtain ⟨rfl, hw9⟩ := hw9
    have rz7 : 0 ≤ z7 ∧ z7 ≤ 1 := hw9.1
    refine lv_if_eq (tgt := 33) hx hb dX12_lend_13 (by decide) (fun c10 => ?_) (fun c10 => ?_)
    · have c10 : z7 = 0 := (i_eq0 (rb rz7 (by decide) (by decide))).mp c10
      clear hw9
      exact J33_5 _ _ _ hP hS (lv_sub hl [0, 1, 2, 3] rfl)
    · have c10 : ¬ z7 = 0 := mt (i_eq0 (rb rz7 (by decide) (by decide))).mpr c10
      have hw9b := hw9.2.mp (by omega)
      clear hw9
      refine lv_aload_n hx hb dX12_lend_16 rfl (lv_at hl 0 rfl) ?_
      refine lv_iload_n hx hb dX12_lend_17 rfl (lv_at hl 3 rfl) ?_
      refine x_calli (As := [.int (iI x3)]) (rest := []) ⟨hx, hb, hml, hown, hts⟩ (mc_X12_isPersonB l dC dI cB cI cJ cZ cQ q _ x3 hI hx3) (cwV 1 hts (goodV (wl_in_5 _ (List.mem_of_getElem? (i := 55) rfl)) (wl_in_5 _ (List.mem_of_getElem? (i := 56) rfl)) (wl_in_5 _ (List.mem_of_getElem? (i := 57) rfl)) (wl_in_0 _ (List.mem_of_getElem? (i := 8) rfl)) (wl_in_4 _ (List.mem_of_getElem? (i := 40) rfl))) rfl rfl rfl (by decide +kernel) ⟨Nat.le_of_ble_eq_true rfl, Nat.le_of_ble_eq_true rfl⟩) hK hDD hA0 hP hS 0 12 wm0 rfl rfl hl.1 (Nat.le_of_ble_eq_true rfl) dX12_lend_18 (fun z11 A12 H locs hw13 hP hS => ?_)
      obtain ⟨rfl, hw13⟩ := hw13
      have rz11 : 0 ≤ z11 ∧ z11 ≤ 1 := hw13.1
      refine lv_if_eq (tgt := 33) hx hb dX12_lend_21 (by decide) (fun c14 => ?_) (fun c14 => ?_)
      · have c14 : z11 = 0 := (i_eq0 (rb rz11 (by decide) (by decide))).mp c14
        clear hw13
        exact J33_5 _ _ _ hP hS (lv_sub hl [0, 1, 2, 3] rfl)
      · have c14 : ¬ z11 = 0 := mt (i_eq0 (rb rz11 (by decide) (by decide))).mpr c14
        have hw13b := hw13.2.mp (by omega)
        clear hw13
        refine lv_iload_n hx hb dX12_lend_24 rfl (lv_at hl 1 rfl) ?_
        refine lv_iload_n hx hb dX12_lend_25 rfl (lv_at hl 3 rfl) ?_
        refine lv_icmp_eq (tgt := 33) hx hb dX12_lend_26 (by decide) (fun c15 => ?_) (fun c15 => ?_)
        · have c15 : x1 = x3 := (i_eq hx1 hx3).mp c15
          exact J33_5 _ _ _ hP hS (lv_sub hl [0, 1, 2, 3] rfl)
        · have c15 : ¬ x1 = x3 := mt (i_eq hx1 hx3).mpr c15
          refine lv_iconst (v := iI 1) hx hb dX12_lend_29 (by decide +kernel) ?_
          refine lv_goto (tgt := 34) hx hb dX12_lend_30 (by decide) ?_
          exact J34_6 1 _ _ _ (by omega) (by omega) (by omega) hP hS (lv_sub hl [0, 1, 2, 3] rfl)

def ws_mc_X12_isOpenBox : List Cond := .code yX12_isOpenBox cX12_isOpenBox 3 (some .boolean) :: WX
set_option maxHeartbeats 4000000 in
set_option maxRecDepth 100000 in
theorem mc_X12_isOpenBox (l : Launch) (dC : Nat → ClassId) (dI : Nat → Nat → Nat) (cB cI cJ cZ cQ : ClassId) (q : Nat → Nat) (A : St) (x1 x2 : Int) (hI : IM A) (hx1 : (0 : Int) ≤ x1 ∧ x1 ≤ 2) (hx2 : (-2147483648 : Int) ≤ x2 ∧ x2 ≤ 2147483647) : XMi l yX12_isOpenBox ws_mc_X12_isOpenBox ({ frames := 3, cells := 0, slots := 0, locals := 67 } : Room) (dC, dI) (tyA cB cI cJ cZ cQ) (WM cI cJ cZ q) A [.ref (q 0), .int (iI x1), .int (iI x2)] (fun z u => A = u ∧ ((0 ≤ z ∧ z ≤ 1) ∧ (z = 1 → 0 ≤ x2 ∧ x2 ≤ 9))) := by
  refine x_metz (cc := cX12_isOpenBox) (maxL := 3) WM_adr (by decide +kernel) rfl (Nat.le_of_ble_eq_true rfl) (fun z u h => h.2.1) (fun p e s m below meth c Q AS ls hx hb hml hown hts hK hDD hA0 hP hS hl RET => ?_)
  have hown : s.vm.findClass RX12 = some m.cls := hown
  have hl : lv_has ls 3 [(0, .ref (q 0)), (1, .int (iI x1)), (2, .int (iI x2))] := hl
  have hiX12 : ∀ w ∈ u_ws RX12 TX12 85, w ∈ ws_mc_X12_isOpenBox := fun w h => List.mem_cons_of_mem _ (wx_lay w h)
  obtain ⟨H, hHe⟩ : ∃ H : Heap, H = s.heap := ⟨_, rfl⟩
  rw [← hHe] at hP
  have hS : va_S AS s.heap H [] := by rw [hHe]; exact hS
  suffices hgo : ∀ locs : List Loc, va_S AS s.heap H locs → W p l e (headSpec ws_mc_X12_isOpenBox ({ frames := 3, cells := 0, slots := 0, locals := 67 } : Room)).room s m [.ref (q 0), .int (iI x1), .int (iI x2)].toArray below meth c H locs 0 0 Q (F0 m 0 ls []) by
    have := hgo [] hS
    rw [hHe] at this
    exact this
  clear hS hHe
  intro locs hS
  refine lv_aload_n hx hb dX12_isOpenBox_0 rfl (lv_at hl 0 rfl) ?_
  refine lv_iload_n hx hb dX12_isOpenBox_1 rfl (lv_at hl 2 rfl) ?_
  have r_A_0_12 : (0 : Int) ≤ (A 0 12) ∧ (A 0 12) ≤ 1 := hI 0 12
  refine x_calli (As := [.int (iI x2)]) (rest := []) ⟨hx, hb, hml, hown, hts⟩ (mc_X12_isDoorB l dC dI cB cI cJ cZ cQ q _ x2 hI hx2) (cwV 1 hts (goodV (wl_in_5 _ (List.mem_of_getElem? (i := 14) rfl)) (wl_in_5 _ (List.mem_of_getElem? (i := 15) rfl)) (wl_in_5 _ (List.mem_of_getElem? (i := 16) rfl)) (wl_in_0 _ (List.mem_of_getElem? (i := 8) rfl)) (wl_in_4 _ (List.mem_of_getElem? (i := 38) rfl))) rfl rfl rfl (by decide +kernel) ⟨Nat.le_of_ble_eq_true rfl, Nat.le_of_ble_eq_true rfl⟩) hK hDD hA0 hP hS 0 12 wm0 rfl rfl hl.1 (Nat.le_of_ble_eq_true rfl) dX12_isOpenBox_2 (fun z1 A2 H locs hw3 hP hS => ?_)
  obtain ⟨rfl, hw3⟩ := hw3
  have rz1 : 0 ≤ z1 ∧ z1 ≤ 1 := hw3.1
  refine lv_if_eq (tgt := 51) hx hb dX12_isOpenBox_5 (by decide) (fun c4 => ?_) (fun c4 => ?_)
  · have c4 : z1 = 0 := (i_eq0 (rb rz1 (by decide) (by decide))).mp c4
    clear hw3
    refine lv_iconst (v := iI 0) hx hb dX12_isOpenBox_51 (by decide +kernel) ?_
    exact RET 0 _ _ _ _ _ ⟨rfl, by omega⟩ hP hS dX12_isOpenBox_52
  · have c4 : ¬ z1 = 0 := mt (i_eq0 (rb rz1 (by decide) (by decide))).mpr c4
    have hw3b := hw3.2.mp (by omega)
    clear hw3
    refine lv_aload_n hx hb dX12_isOpenBox_8 rfl (lv_at hl 0 rfl) ?_
    refine va_get (D := (dC, dI)) (ci := 12) (v := .ref (q 8)) (C := RX12) (T := TX12) (N := 85) hx hb hts hiX12 hown hK hP 0 wm0 rfl 19 (by decide) (hts _ (List.mem_cons_of_mem _ (wl_in_2 _ (List.mem_of_getElem? (i := 41) rfl)))) (fun _ h9 => h9) rfl dX12_isOpenBox_9 ?_
    refine lv_aload_n hx hb dX12_isOpenBox_12 rfl (lv_at hl 0 rfl) ?_
    refine lv_iload_n hx hb dX12_isOpenBox_13 rfl (lv_at hl 2 rfl) ?_
    refine x_calli (As := [.int (iI x2)]) (rest := [.ref (q 8)]) ⟨hx, hb, hml, hown, hts⟩ (mc_X12_door10 l dC dI cB cI cJ cZ cQ q _ x2 hI (by omega)) (cwV 1 hts (goodV (wl_in_4 _ (List.mem_of_getElem? (i := 49) rfl)) (wl_in_4 _ (List.mem_of_getElem? (i := 50) rfl)) (wl_in_4 _ (List.mem_of_getElem? (i := 51) rfl)) (wl_in_0 _ (List.mem_of_getElem? (i := 8) rfl)) (wl_in_4 _ (List.mem_of_getElem? (i := 42) rfl))) rfl rfl rfl (by decide +kernel) ⟨Nat.le_of_ble_eq_true rfl, Nat.le_of_ble_eq_true rfl⟩) hK hDD hA0 hP hS 0 12 wm0 rfl rfl hl.1 (Nat.le_of_ble_eq_true rfl) dX12_isOpenBox_14 (fun z5 A6 H locs hw7 hP hS => ?_)
    obtain ⟨rfl, hw7⟩ := hw7
    refine tp_i (y := iI (10 * (A 0 12) + x2)) (congrArg iI (show z5 = 10 * (A 0 12) + x2 by omega)) ?_
    clear hw7 z5
    refine x_zald hx hb hK hP 8 3 wm8 rfl (by omega) (by decide) dX12_isOpenBox_17 (fun z8 hz8 => ?_)
    have rz8 : (0 : Int) ≤ z8 ∧ z8 ≤ 1 := by rw [hz8]; exact hI 8 _
    have hz8 : z8 = A 8 (10 * (A 0 12) + x2).toNat := hz8
    refine lv_if_eq (tgt := 51) hx hb dX12_isOpenBox_18 (by decide) (fun c9 => ?_) (fun c9 => ?_)
    · have c9 : z8 = 0 := (i_eq0 (rb rz8 (by decide) (by decide))).mp c9
      refine lv_iconst (v := iI 0) hx hb dX12_isOpenBox_51 (by decide +kernel) ?_
      exact RET 0 _ _ _ _ _ ⟨rfl, by omega⟩ hP hS dX12_isOpenBox_52
    · have c9 : ¬ z8 = 0 := mt (i_eq0 (rb rz8 (by decide) (by decide))).mpr c9
      refine lv_aload_n hx hb dX12_isOpenBox_21 rfl (lv_at hl 0 rfl) ?_
      refine va_get (D := (dC, dI)) (ci := 12) (v := .ref (q 6)) (C := RX12) (T := TX12) (N := 85) hx hb hts hiX12 hown hK hP 0 wm0 rfl 17 (by decide) (hts _ (List.mem_cons_of_mem _ (wl_in_2 _ (List.mem_of_getElem? (i := 39) rfl)))) (fun _ h9 => h9) rfl dX12_isOpenBox_22 ?_
      refine lv_aload_n hx hb dX12_isOpenBox_25 rfl (lv_at hl 0 rfl) ?_
      refine lv_iload_n hx hb dX12_isOpenBox_26 rfl (lv_at hl 2 rfl) ?_
      refine x_calli (As := [.int (iI x2)]) (rest := [.ref (q 6)]) ⟨hx, hb, hml, hown, hts⟩ (mc_X12_door10 l dC dI cB cI cJ cZ cQ q _ x2 hI (by omega)) (cwV 1 hts (goodV (wl_in_4 _ (List.mem_of_getElem? (i := 49) rfl)) (wl_in_4 _ (List.mem_of_getElem? (i := 50) rfl)) (wl_in_4 _ (List.mem_of_getElem? (i := 51) rfl)) (wl_in_0 _ (List.mem_of_getElem? (i := 8) rfl)) (wl_in_4 _ (List.mem_of_getElem? (i := 42) rfl))) rfl rfl rfl (by decide +kernel) ⟨Nat.le_of_ble_eq_true rfl, Nat.le_of_ble_eq_true rfl⟩) hK hDD hA0 hP hS 0 12 wm0 rfl rfl hl.1 (Nat.le_of_ble_eq_true rfl) dX12_isOpenBox_27 (fun z10 A11 H locs hw12 hP hS => ?_)
      obtain ⟨rfl, hw12⟩ := hw12
      refine tp_i (y := iI (10 * (A 0 12) + x2)) (congrArg iI (show z10 = 10 * (A 0 12) + x2 by omega)) ?_
      clear hw12 z10
      refine x_iald hx hb hK hP 6 1 wm6 rfl (by omega) (by decide) dX12_isOpenBox_30 (fun z13 hz13 => ?_)
      have rz13 : (0 : Int) ≤ z13 ∧ z13 ≤ 7 := by rw [hz13]; exact hI 6 _
      have hz13 : z13 = A 6 (10 * (A 0 12) + x2).toNat := hz13
      refine lv_aload_n hx hb dX12_isOpenBox_31 rfl (lv_at hl 0 rfl) ?_
      refine lv_iload_n hx hb dX12_isOpenBox_32 rfl (lv_at hl 1 rfl) ?_
      refine x_calli (As := [.int (iI x1)]) (rest := [.int (iI z13)]) ⟨hx, hb, hml, hown, hts⟩ (mc_X12_placeOf l dC dI cB cI cJ cZ cQ q _ x1 hI hx1) (cwV 1 hts (goodV (wl_in_5 _ (List.mem_of_getElem? (i := 35) rfl)) (wl_in_5 _ (List.mem_of_getElem? (i := 36) rfl)) (wl_in_5 _ (List.mem_of_getElem? (i := 37) rfl)) (wl_in_0 _ (List.mem_of_getElem? (i := 8) rfl)) (wl_in_5 _ (List.mem_of_getElem? (i := 25) rfl))) rfl rfl rfl (by decide +kernel) ⟨Nat.le_of_ble_eq_true rfl, Nat.le_of_ble_eq_true rfl⟩) hK hDD hA0 hP hS 0 12 wm0 rfl rfl hl.1 (Nat.le_of_ble_eq_true rfl) dX12_isOpenBox_33 (fun z14 A15 H locs hw16 hP hS => ?_)
      obtain ⟨rfl, hw16⟩ := hw16
      refine lv_icmp_ne (tgt := 51) hx hb dX12_isOpenBox_36 (by decide) (fun c17 => ?_) (fun c17 => ?_)
      · have c17 : ¬ z13 = z14 := mt (i_eq (rb rz13 (by decide) (by decide)) (rb hw16 (by decide) (by decide))).mpr c17
        refine lv_iconst (v := iI 0) hx hb dX12_isOpenBox_51 (by decide +kernel) ?_
        exact RET 0 _ _ _ _ _ ⟨rfl, by omega⟩ hP hS dX12_isOpenBox_52
      · have c17 : z13 = z14 := (i_eq (rb rz13 (by decide) (by decide)) (rb hw16 (by decide) (by decide))).mp c17
        refine lv_aload_n hx hb dX12_isOpenBox_39 rfl (lv_at hl 0 rfl) ?_
        refine lv_iload_n hx hb dX12_isOpenBox_40 rfl (lv_at hl 2 rfl) ?_
        refine x_calli (As := [.int (iI x2)]) (rest := []) ⟨hx, hb, hml, hown, hts⟩ (mc_X12_isShut l dC dI cB cI cJ cZ cQ q _ x2 hI (by omega)) (cwV 1 hts (goodV (wl_in_4 _ (List.mem_of_getElem? (i := 57) rfl)) (wl_in_4 _ (List.mem_of_getElem? (i := 58) rfl)) (wl_in_4 _ (List.mem_of_getElem? (i := 59) rfl)) (wl_in_0 _ (List.mem_of_getElem? (i := 8) rfl)) (wl_in_4 _ (List.mem_of_getElem? (i := 48) rfl))) rfl rfl rfl (by decide +kernel) ⟨Nat.le_of_ble_eq_true rfl, Nat.le_of_ble_eq_true rfl⟩) hK hDD hA0 hP hS 0 12 wm0 rfl rfl hl.1 (Nat.le_of_ble_eq_true rfl) dX12_isOpenBox_41 (fun z18 A19 H locs hw20 hP hS => ?_)
        obtain ⟨rfl, hw20⟩ := hw20
        refine lv_if_ne (tgt := 51) hx hb dX12_isOpenBox_44 (by decide) (fun c21 => ?_) (fun c21 => ?_)
        · have c21 : ¬ z18 = 0 := mt (i_eq0 (rb hw20 (by decide) (by decide))).mpr c21
          refine lv_iconst (v := iI 0) hx hb dX12_isOpenBox_51 (by decide +kernel) ?_
          exact RET 0 _ _ _ _ _ ⟨rfl, by omega⟩ hP hS dX12_isOpenBox_52
        · have c21 : z18 = 0 := (i_eq0 (rb hw20 (by decide) (by decide))).mp c21
          refine lv_iconst (v := iI 1) hx hb dX12_isOpenBox_47 (by decide +kernel) ?_
          refine lv_goto (tgt := 52) hx hb dX12_isOpenBox_48 (by decide) ?_
          exact RET 1 _ _ _ _ _ ⟨rfl, by omega⟩ hP hS dX12_isOpenBox_52

def ws_mc_X12_take : List Cond := .code yX12_take cX12_take 5 (some .boolean) :: WX
set_option maxHeartbeats 4000000 in
set_option maxRecDepth 100000 in
theorem mc_X12_take (l : Launch) (dC : Nat → ClassId) (dI : Nat → Nat → Nat) (cB cI cJ cZ cQ : ClassId) (q : Nat → Nat) (A : St) (x1 x2 : Int) (hI : IM A) (hx1 : (-2147483648 : Int) ≤ x1 ∧ x1 ≤ 2147483647) (hx2 : (-2147483648 : Int) ≤ x2 ∧ x2 ≤ 2147483647) : XMi l yX12_take ws_mc_X12_take ({ frames := 4, cells := 0, slots := 0, locals := 89 } : Room) (dC, dI) (tyA cB cI cJ cZ cQ) (WM cI cJ cZ q) A [.ref (q 0), .int (iI x1), .int (iI x2)] (fun z u => IM u ∧ fr [13, 41] [] A u ∧ (0 ≤ z ∧ z ≤ 1)) := by
  refine x_metz (cc := cX12_take) (maxL := 5) WM_adr (by decide +kernel) rfl (Nat.le_of_ble_eq_true rfl) (fun z u h => h.2.2) (fun p e s m below meth c Q AS ls hx hb hml hown hts hK hDD hA0 hP hS hl RET => ?_)
  have hown : s.vm.findClass RX12 = some m.cls := hown
  have hl : lv_has ls 5 [(0, .ref (q 0)), (1, .int (iI x1)), (2, .int (iI x2))] := hl
  have hiX12 : ∀ w ∈ u_ws RX12 TX12 85, w ∈ ws_mc_X12_take := fun w h => List.mem_cons_of_mem _ (wx_lay w h)
  obtain ⟨H, hHe⟩ : ∃ H : Heap, H = s.heap := ⟨_, rfl⟩
  rw [← hHe] at hP
  have hS : va_S AS s.heap H [] := by rw [hHe]; exact hS
  suffices hgo : ∀ locs : List Loc, va_S AS s.heap H locs → W p l e (headSpec ws_mc_X12_take ({ frames := 4, cells := 0, slots := 0, locals := 89 } : Room)).room s m [.ref (q 0), .int (iI x1), .int (iI x2)].toArray below meth c H locs 0 0 Q (F0 m 0 ls []) by
    have := hgo [] hS
    rw [hHe] at this
    exact this
  clear hS hHe
  intro locs hS
  refine lv_aload_n hx hb dX12_take_0 rfl (lv_at hl 0 rfl) ?_
  refine lv_iload_n hx hb dX12_take_1 rfl (lv_at hl 1 rfl) ?_
  have r_A_0_12 : (0 : Int) ≤ (A 0 12) ∧ (A 0 12) ≤ 1 := hI 0 12
  refine x_calli (As := [.int (iI x1)]) (rest := []) ⟨hx, hb, hml, hown, hts⟩ (mc_X12_isPersonB l dC dI cB cI cJ cZ cQ q _ x1 hI hx1) (cwV 1 hts (goodV (wl_in_5 _ (List.mem_of_getElem? (i := 55) rfl)) (wl_in_5 _ (List.mem_of_getElem? (i := 56) rfl)) (wl_in_5 _ (List.mem_of_getElem? (i := 57) rfl)) (wl_in_0 _ (List.mem_of_getElem? (i := 8) rfl)) (wl_in_4 _ (List.mem_of_getElem? (i := 40) rfl))) rfl rfl rfl (by decide +kernel) ⟨Nat.le_of_ble_eq_true rfl, Nat.le_of_ble_eq_true rfl⟩) hK hDD hA0 hP hS 0 12 wm0 rfl rfl hl.1 (Nat.le_of_ble_eq_true rfl) dX12_take_2 (fun z1 A2 H locs hw3 hP hS => ?_)
  obtain ⟨rfl, hw3⟩ := hw3
  have rz1 : 0 ≤ z1 ∧ z1 ≤ 1 := hw3.1
  have J16_5 : ∀ (H : Heap) (locs : List Loc) (ls : Array Slot), va_P (dC, dI) vwCl (WM cI cJ cZ q A) H → va_S AS s.heap H locs → lv_has ls 5 [(0, .ref (q 0)), (1, .int (iI x1)), (2, .int (iI x2))] → W p l e (headSpec ws_mc_X12_take ({ frames := 4, cells := 0, slots := 0, locals := 89 } : Room)).room s m [.ref (q 0), .int (iI x1), .int (iI x2)].toArray below meth c H locs 0 0 Q (F0 m 16 ls []) := by
    intro H locs ls hP hS hl
    clear hw3
    refine lv_aload_n hx hb dX12_take_16 rfl (lv_at hl 0 rfl) ?_
    refine lv_iconst (v := iI 3) hx hb dX12_take_17 (by decide +kernel) ?_
    refine x_calli (As := [.int (iI 3)]) (rest := []) ⟨hx, hb, hml, hown, hts⟩ (mc_X12_refuses l dC dI cB cI cJ cZ cQ q _ 3 hI ⟨by decide, by decide⟩) (cwV 1 hts (goodV (wl_in_0 _ (List.mem_of_getElem? (i := 5) rfl)) (wl_in_0 _ (List.mem_of_getElem? (i := 6) rfl)) (wl_in_0 _ (List.mem_of_getElem? (i := 7) rfl)) (wl_in_0 _ (List.mem_of_getElem? (i := 8) rfl)) (wl_in_0 _ (List.mem_of_getElem? (i := 9) rfl))) rfl rfl rfl (by decide +kernel) ⟨Nat.le_of_ble_eq_true rfl, Nat.le_of_ble_eq_true rfl⟩) hK hDD hA0 hP hS 0 12 wm0 rfl rfl hl.1 (Nat.le_of_ble_eq_true rfl) dX12_take_18 (fun z43 A44 H locs hw45 hP hS => ?_)
    obtain ⟨_, hI, hf46, hw45⟩ := hw45
    refine lv_if_lt (tgt := 28) hx hb dX12_take_21 (by decide) (fun _ => ?_) (fun c47 => False.elim (by have c47 : ¬ z43 < 0 := mt (i_lt0 (by omega)).mpr c47; omega))
    refine lv_iconst (v := iI 0) hx hb dX12_take_28 (by decide +kernel) ?_
    exact RET 0 _ _ _ _ _ ⟨hI, fr.trans (fr.rf) hf46 rfl rfl, by omega⟩ hP hS dX12_take_29
  refine lv_if_eq (tgt := 16) hx hb dX12_take_5 (by decide) (fun c4 => ?_) (fun c4 => ?_)
  · have c4 : z1 = 0 := (i_eq0 (rb rz1 (by decide) (by decide))).mp c4
    clear hw3
    exact J16_5 _ _ _ hP hS (lv_sub hl [0, 1, 2] rfl)
  · have c4 : ¬ z1 = 0 := mt (i_eq0 (rb rz1 (by decide) (by decide))).mpr c4
    have hw3b := hw3.2.mp (by omega)
    clear hw3
    refine lv_aload_n hx hb dX12_take_8 rfl (lv_at hl 0 rfl) ?_
    refine lv_iload_n hx hb dX12_take_9 rfl (lv_at hl 2 rfl) ?_
    refine x_calli (As := [.int (iI x2)]) (rest := []) ⟨hx, hb, hml, hown, hts⟩ (mc_X12_isKeyB l dC dI cB cI cJ cZ cQ q _ x2 hI hx2) (cwV 1 hts (goodV (wl_in_5 _ (List.mem_of_getElem? (i := 18) rfl)) (wl_in_5 _ (List.mem_of_getElem? (i := 19) rfl)) (wl_in_5 _ (List.mem_of_getElem? (i := 20) rfl)) (wl_in_0 _ (List.mem_of_getElem? (i := 8) rfl)) (wl_in_4 _ (List.mem_of_getElem? (i := 39) rfl))) rfl rfl rfl (by decide +kernel) ⟨Nat.le_of_ble_eq_true rfl, Nat.le_of_ble_eq_true rfl⟩) hK hDD hA0 hP hS 0 12 wm0 rfl rfl hl.1 (Nat.le_of_ble_eq_true rfl) dX12_take_10 (fun z6 A7 H locs hw8 hP hS => ?_)
    obtain ⟨rfl, hw8⟩ := hw8
    have rz6 : 0 ≤ z6 ∧ z6 ≤ 1 := hw8.1
    refine lv_if_ne (tgt := 30) hx hb dX12_take_13 (by decide) (fun c9 => ?_) (fun c9 => ?_)
    · have c9 : ¬ z6 = 0 := mt (i_eq0 (rb rz6 (by decide) (by decide))).mpr c9
      have hw8b := hw8.2.mp (by omega)
      clear hw8
      refine lv_aload_n hx hb dX12_take_30 rfl (lv_at hl 0 rfl) ?_
      refine va_get (D := (dC, dI)) (ci := 12) (v := .ref (q 13)) (C := RX12) (T := TX12) (N := 85) hx hb hts hiX12 hown hK hP 0 wm0 rfl 24 (by decide) (hts _ (List.mem_cons_of_mem _ (wl_in_2 _ (List.mem_of_getElem? (i := 58) rfl)))) (fun _ h9 => h9) rfl dX12_take_31 ?_
      refine lv_aload_n hx hb dX12_take_34 rfl (lv_at hl 0 rfl) ?_
      refine lv_iload_n hx hb dX12_take_35 rfl (lv_at hl 2 rfl) ?_
      refine x_calli (As := [.int (iI x2)]) (rest := [.ref (q 13)]) ⟨hx, hb, hml, hown, hts⟩ (mc_X12_key4 l dC dI cB cI cJ cZ cQ q _ x2 hI (by omega)) (cwV 1 hts (goodV (wl_in_4 _ (List.mem_of_getElem? (i := 44) rfl)) (wl_in_4 _ (List.mem_of_getElem? (i := 45) rfl)) (wl_in_4 _ (List.mem_of_getElem? (i := 46) rfl)) (wl_in_0 _ (List.mem_of_getElem? (i := 8) rfl)) (wl_in_4 _ (List.mem_of_getElem? (i := 41) rfl))) rfl rfl rfl (by decide +kernel) ⟨Nat.le_of_ble_eq_true rfl, Nat.le_of_ble_eq_true rfl⟩) hK hDD hA0 hP hS 0 12 wm0 rfl rfl hl.1 (Nat.le_of_ble_eq_true rfl) dX12_take_36 (fun z10 A11 H locs hw12 hP hS => ?_)
      obtain ⟨rfl, hw12⟩ := hw12
      refine tp_i (y := iI (4 * (A 0 12) + x2)) (congrArg iI (show z10 = 4 * (A 0 12) + x2 by omega)) ?_
      clear hw12 z10
      refine x_iald hx hb hK hP 13 1 wm13 rfl (by omega) (by decide) dX12_take_39 (fun z13 hz13 => ?_)
      have rz13 : (0 : Int) ≤ z13 ∧ z13 ≤ 40 := by rw [hz13]; exact hI 13 _
      have hz13 : z13 = A 13 (4 * (A 0 12) + x2).toNat := hz13
      refine lv_istore_n (lv' := [(3, .int (iI z13)), (0, .ref (q 0)), (1, .int (iI x1)), (2, .int (iI x2))]) hx hb dX12_take_40 rfl hl (by decide) rfl (fun ls hl => ?_)
      refine lv_iload_n hx hb dX12_take_41 rfl (lv_at hl 0 rfl) ?_
      refine lv_bipush (v := iI 10) hx hb dX12_take_42 (by decide +kernel) ?_
      refine lv_aload_n hx hb dX12_take_44 rfl (lv_at hl 1 rfl) ?_
      refine lv_iload_n hx hb dX12_take_45 rfl (lv_at hl 2 rfl) ?_
      refine x_calli (As := [.int (iI x1)]) (rest := [.int (iI 10), .int (iI z13)]) ⟨hx, hb, hml, hown, hts⟩ (mc_X12_placeOf l dC dI cB cI cJ cZ cQ q _ x1 hI (by omega)) (cwV 1 hts (goodV (wl_in_5 _ (List.mem_of_getElem? (i := 35) rfl)) (wl_in_5 _ (List.mem_of_getElem? (i := 36) rfl)) (wl_in_5 _ (List.mem_of_getElem? (i := 37) rfl)) (wl_in_0 _ (List.mem_of_getElem? (i := 8) rfl)) (wl_in_5 _ (List.mem_of_getElem? (i := 25) rfl))) rfl rfl rfl (by decide +kernel) ⟨Nat.le_of_ble_eq_true rfl, Nat.le_of_ble_eq_true rfl⟩) hK hDD hA0 hP hS 0 12 wm0 rfl rfl hl.1 (Nat.le_of_ble_eq_true rfl) dX12_take_46 (fun z14 A15 H locs hw16 hP hS => ?_)
      obtain ⟨rfl, hw16⟩ := hw16
      refine x_addv (v := z14 + 10) hx hb dX12_take_49 (by omega) ?_
      have J82_19 : ∀ (z29 : Int) (H : Heap) (locs : List Loc) (ls : Array Slot), (0 ≤ z29 ∧ z29 ≤ 1) → ((z29 = 0 ∧ ¬ z13 = z14 + 10) ∨ (z29 = 1)) → va_P (dC, dI) vwCl (WM cI cJ cZ q A) H → va_S AS s.heap H locs → lv_has ls 5 [(3, .int (iI z13)), (0, .ref (q 0)), (1, .int (iI x1)), (2, .int (iI x2))] → W p l e (headSpec ws_mc_X12_take ({ frames := 4, cells := 0, slots := 0, locals := 89 } : Room)).room s m [.ref (q 0), .int (iI x1), .int (iI x2)].toArray below meth c H locs 0 0 Q (F0 m 82 ls [.int (iI z29)]) := by
        intro z29 H locs ls f31 f32 hP hS hl
        refine lv_istore (lv' := [(4, .int (iI z29)), (3, .int (iI z13)), (0, .ref (q 0)), (1, .int (iI x1)), (2, .int (iI x2))]) hx hb dX12_take_82 hl (by decide) rfl (fun ls hl => ?_)
        refine lv_iload hx hb dX12_take_84 (lv_at hl 0 rfl) ?_
        refine lv_if_ne (tgt := 103) hx hb dX12_take_86 (by decide) (fun c33 => ?_) (fun c33 => ?_)
        · have c33 : ¬ z29 = 0 := mt (i_eq0 (rb f31 (by decide) (by decide))).mpr c33
          refine lv_aload_n hx hb dX12_take_103 rfl (lv_at hl 2 rfl) ?_
          refine va_get (D := (dC, dI)) (ci := 12) (v := .ref (q 13)) (C := RX12) (T := TX12) (N := 85) hx hb hts hiX12 hown hK hP 0 wm0 rfl 24 (by decide) (hts _ (List.mem_cons_of_mem _ (wl_in_2 _ (List.mem_of_getElem? (i := 58) rfl)))) (fun _ h9 => h9) rfl dX12_take_104 ?_
          refine lv_aload_n hx hb dX12_take_107 rfl (lv_at hl 2 rfl) ?_
          refine lv_iload_n hx hb dX12_take_108 rfl (lv_at hl 4 rfl) ?_
          refine x_calli (As := [.int (iI x2)]) (rest := [.ref (q 13)]) ⟨hx, hb, hml, hown, hts⟩ (mc_X12_key4 l dC dI cB cI cJ cZ cQ q _ x2 hI (by omega)) (cwV 1 hts (goodV (wl_in_4 _ (List.mem_of_getElem? (i := 44) rfl)) (wl_in_4 _ (List.mem_of_getElem? (i := 45) rfl)) (wl_in_4 _ (List.mem_of_getElem? (i := 46) rfl)) (wl_in_0 _ (List.mem_of_getElem? (i := 8) rfl)) (wl_in_4 _ (List.mem_of_getElem? (i := 41) rfl))) rfl rfl rfl (by decide +kernel) ⟨Nat.le_of_ble_eq_true rfl, Nat.le_of_ble_eq_true rfl⟩) hK hDD hA0 hP hS 0 12 wm0 rfl rfl hl.1 (Nat.le_of_ble_eq_true rfl) dX12_take_109 (fun z34 A35 H locs hw36 hP hS => ?_)
          obtain ⟨rfl, hw36⟩ := hw36
          refine tp_i (y := iI (4 * (A 0 12) + x2)) (congrArg iI (show z34 = 4 * (A 0 12) + x2 by omega)) ?_
          clear hw36 z34
          refine lv_iload_n hx hb dX12_take_112 rfl (lv_at hl 3 rfl) ?_
          refine x_iast hx hb hK hP hDD hS 13 1 wm13 rfl (by omega) (by decide) dX12_take_113 ws13 (fun H locs hP hS => ?_)
          have hI := hI.st (j := 13) (i := (4 * (A 0 12) + x2).toNat) (v := x1) (show (0 : Int) ≤ x1 ∧ x1 ≤ 40 from (by omega))
          refine lv_iconst (v := iI 1) hx hb dX12_take_114 (by decide +kernel) ?_
          exact RET 1 _ _ _ _ _ ⟨hI, fr.st (fr.rf) (by decide) rfl, by omega⟩ hP hS dX12_take_115
        · have c33 : z29 = 0 := (i_eq0 (rb f31 (by decide) (by decide))).mp c33
          refine lv_aload_n hx hb dX12_take_89 rfl (lv_at hl 2 rfl) ?_
          refine lv_iconst (v := iI 3) hx hb dX12_take_90 (by decide +kernel) ?_
          refine x_calli (As := [.int (iI 3)]) (rest := []) ⟨hx, hb, hml, hown, hts⟩ (mc_X12_refuses l dC dI cB cI cJ cZ cQ q _ 3 hI ⟨by decide, by decide⟩) (cwV 1 hts (goodV (wl_in_0 _ (List.mem_of_getElem? (i := 5) rfl)) (wl_in_0 _ (List.mem_of_getElem? (i := 6) rfl)) (wl_in_0 _ (List.mem_of_getElem? (i := 7) rfl)) (wl_in_0 _ (List.mem_of_getElem? (i := 8) rfl)) (wl_in_0 _ (List.mem_of_getElem? (i := 9) rfl))) rfl rfl rfl (by decide +kernel) ⟨Nat.le_of_ble_eq_true rfl, Nat.le_of_ble_eq_true rfl⟩) hK hDD hA0 hP hS 0 12 wm0 rfl rfl hl.1 (Nat.le_of_ble_eq_true rfl) dX12_take_91 (fun z37 A38 H locs hw39 hP hS => ?_)
          obtain ⟨_, hI, hf40, hw39⟩ := hw39
          refine lv_if_lt (tgt := 101) hx hb dX12_take_94 (by decide) (fun _ => ?_) (fun c41 => False.elim (by have c41 : ¬ z37 < 0 := mt (i_lt0 (by omega)).mpr c41; omega))
          refine lv_iconst (v := iI 0) hx hb dX12_take_101 (by decide +kernel) ?_
          exact RET 0 _ _ _ _ _ ⟨hI, fr.trans (fr.rf) hf40 rfl rfl, by omega⟩ hP hS dX12_take_102
      have J77_18 : ∀ (H : Heap) (locs : List Loc) (ls : Array Slot), va_P (dC, dI) vwCl (WM cI cJ cZ q A) H → va_S AS s.heap H locs → lv_has ls 5 [(3, .int (iI z13)), (0, .ref (q 0)), (1, .int (iI x1)), (2, .int (iI x2))] → W p l e (headSpec ws_mc_X12_take ({ frames := 4, cells := 0, slots := 0, locals := 89 } : Room)).room s m [.ref (q 0), .int (iI x1), .int (iI x2)].toArray below meth c H locs 0 0 Q (F0 m 77 ls []) := by
        intro H locs ls hP hS hl
        refine lv_iconst (v := iI 1) hx hb dX12_take_77 (by decide +kernel) ?_
        refine lv_goto (tgt := 82) hx hb dX12_take_78 (by decide) ?_
        exact J82_19 1 _ _ _ (by omega) (by omega) hP hS (lv_sub hl [0, 1, 2, 3] rfl)
      refine lv_icmp_eq (tgt := 77) hx hb dX12_take_50 (by decide) (fun c17 => ?_) (fun c17 => ?_)
      · have c17 : z13 = z14 + 10 := (i_eq (rb rz13 (by decide) (by decide)) (by omega)).mp c17
        exact J77_18 _ _ _ hP hS (lv_sub hl [0, 1, 2, 3] rfl)
      · have c17 : ¬ z13 = z14 + 10 := mt (i_eq (rb rz13 (by decide) (by decide)) (by omega)).mpr c17
        refine lv_iload_n hx hb dX12_take_53 rfl (lv_at hl 0 rfl) ?_
        refine lv_bipush (v := iI 20) hx hb dX12_take_54 (by decide +kernel) ?_
        have J81_21 : ∀ (H : Heap) (locs : List Loc) (ls : Array Slot), va_P (dC, dI) vwCl (WM cI cJ cZ q A) H → va_S AS s.heap H locs → lv_has ls 5 [(3, .int (iI z13)), (0, .ref (q 0)), (1, .int (iI x1)), (2, .int (iI x2))] → W p l e (headSpec ws_mc_X12_take ({ frames := 4, cells := 0, slots := 0, locals := 89 } : Room)).room s m [.ref (q 0), .int (iI x1), .int (iI x2)].toArray below meth c H locs 0 0 Q (F0 m 81 ls []) := by
          intro H locs ls hP hS hl
          refine lv_iconst (v := iI 0) hx hb dX12_take_81 (by decide +kernel) ?_
          exact J82_19 0 _ _ _ (by omega) (by omega) hP hS (lv_sub hl [0, 1, 2, 3] rfl)
        refine lv_icmp_lt (tgt := 81) hx hb dX12_take_56 (by decide) (fun c20 => ?_) (fun c20 => ?_)
        · have c20 : z13 < 20 := (i_lt (rb rz13 (by decide) (by decide)) ⟨by decide, by decide⟩).mp c20
          exact J81_21 _ _ _ hP hS (lv_sub hl [0, 1, 2, 3] rfl)
        · have c20 : ¬ z13 < 20 := mt (i_lt (rb rz13 (by decide) (by decide)) ⟨by decide, by decide⟩).mpr c20
          refine lv_iload_n hx hb dX12_take_59 rfl (lv_at hl 0 rfl) ?_
          refine lv_bipush (v := iI 40) hx hb dX12_take_60 (by decide +kernel) ?_
          refine lv_icmp_ge (tgt := 81) hx hb dX12_take_62 (by decide) (fun c22 => ?_) (fun c22 => ?_)
          · have c22 : 40 ≤ z13 := (i_le ⟨by decide, by decide⟩ (rb rz13 (by decide) (by decide))).mp c22
            exact J81_21 _ _ _ hP hS (lv_sub hl [0, 1, 2, 3] rfl)
          · have c22 : ¬ 40 ≤ z13 := mt (i_le ⟨by decide, by decide⟩ (rb rz13 (by decide) (by decide))).mpr c22
            refine lv_aload_n hx hb dX12_take_65 rfl (lv_at hl 1 rfl) ?_
            refine lv_iload_n hx hb dX12_take_66 rfl (lv_at hl 2 rfl) ?_
            refine lv_iload_n hx hb dX12_take_67 rfl (lv_at hl 0 rfl) ?_
            refine lv_bipush (v := iI 20) hx hb dX12_take_68 (by decide +kernel) ?_
            refine x_subv (v := z13 - 20) hx hb dX12_take_70 (by omega) ?_
            refine x_calli (As := [.int (iI x1), .int (iI (z13 - 20))]) (rest := []) ⟨hx, hb, hml, hown, hts⟩ (mc_X12_isOpenBox l dC dI cB cI cJ cZ cQ q _ x1 (z13 - 20) hI (by omega) (by omega)) (cwV 2 hts (goodV (wl_in_6 _ (List.mem_of_getElem? (i := 12) rfl)) (wl_in_6 _ (List.mem_of_getElem? (i := 13) rfl)) (wl_in_6 _ (List.mem_of_getElem? (i := 14) rfl)) (wl_in_0 _ (List.mem_of_getElem? (i := 8) rfl)) (wl_in_6 _ (List.mem_of_getElem? (i := 10) rfl))) rfl rfl rfl (by decide +kernel) ⟨Nat.le_of_ble_eq_true rfl, Nat.le_of_ble_eq_true rfl⟩) hK hDD hA0 hP hS 0 12 wm0 rfl rfl hl.1 (Nat.le_of_ble_eq_true rfl) dX12_take_71 (fun z23 A24 H locs hw25 hP hS => ?_)
            obtain ⟨rfl, hw25⟩ := hw25
            have rz23 : 0 ≤ z23 ∧ z23 ≤ 1 := hw25.1
            refine lv_if_eq (tgt := 81) hx hb dX12_take_74 (by decide) (fun c26 => ?_) (fun c26 => ?_)
            · have c26 : z23 = 0 := (i_eq0 (rb rz23 (by decide) (by decide))).mp c26
              exact J81_21 _ _ _ hP hS (lv_sub hl [0, 1, 2, 3] rfl)
            · have c26 : ¬ z23 = 0 := mt (i_eq0 (rb rz23 (by decide) (by decide))).mpr c26
              exact J77_18 _ _ _ hP hS (lv_sub hl [0, 1, 2, 3] rfl)
    · have c9 : z6 = 0 := (i_eq0 (rb rz6 (by decide) (by decide))).mp c9
      clear hw8
      exact J16_5 _ _ _ hP hS (lv_sub hl [0, 1, 2] rfl)

def ws_mc_X12_lay : List Cond := .code yX12_lay cX12_lay 5 (some .boolean) :: WX
set_option maxHeartbeats 4000000 in
set_option maxRecDepth 100000 in
theorem mc_X12_lay (l : Launch) (dC : Nat → ClassId) (dI : Nat → Nat → Nat) (cB cI cJ cZ cQ : ClassId) (q : Nat → Nat) (A : St) (x1 x2 x3 : Int) (hI : IM A) (hx1 : (-2147483648 : Int) ≤ x1 ∧ x1 ≤ 2147483647) (hx2 : (-2147483648 : Int) ≤ x2 ∧ x2 ≤ 2147483647) (hx3 : (-2147483648 : Int) ≤ x3 ∧ x3 ≤ 2147483647) : XMi l yX12_lay ws_mc_X12_lay ({ frames := 4, cells := 0, slots := 0, locals := 89 } : Room) (dC, dI) (tyA cB cI cJ cZ cQ) (WM cI cJ cZ q) A [.ref (q 0), .int (iI x1), .int (iI x2), .int (iI x3)] (fun z u => IM u ∧ fr [13, 41] [] A u ∧ (0 ≤ z ∧ z ≤ 1)) := by
  refine x_metz (cc := cX12_lay) (maxL := 5) WM_adr (by decide +kernel) rfl (Nat.le_of_ble_eq_true rfl) (fun z u h => h.2.2) (fun p e s m below meth c Q AS ls hx hb hml hown hts hK hDD hA0 hP hS hl RET => ?_)
  have hown : s.vm.findClass RX12 = some m.cls := hown
  have hl : lv_has ls 5 [(0, .ref (q 0)), (1, .int (iI x1)), (2, .int (iI x2)), (3, .int (iI x3))] := hl
  have hiX12 : ∀ w ∈ u_ws RX12 TX12 85, w ∈ ws_mc_X12_lay := fun w h => List.mem_cons_of_mem _ (wx_lay w h)
  obtain ⟨H, hHe⟩ : ∃ H : Heap, H = s.heap := ⟨_, rfl⟩
  rw [← hHe] at hP
  have hS : va_S AS s.heap H [] := by rw [hHe]; exact hS
  suffices hgo : ∀ locs : List Loc, va_S AS s.heap H locs → W p l e (headSpec ws_mc_X12_lay ({ frames := 4, cells := 0, slots := 0, locals := 89 } : Room)).room s m [.ref (q 0), .int (iI x1), .int (iI x2), .int (iI x3)].toArray below meth c H locs 0 0 Q (F0 m 0 ls []) by
    have := hgo [] hS
    rw [hHe] at this
    exact this
  clear hS hHe
  intro locs hS
  refine lv_aload_n hx hb dX12_lay_0 rfl (lv_at hl 0 rfl) ?_
  refine lv_iload_n hx hb dX12_lay_1 rfl (lv_at hl 1 rfl) ?_
  have r_A_0_12 : (0 : Int) ≤ (A 0 12) ∧ (A 0 12) ≤ 1 := hI 0 12
  refine x_calli (As := [.int (iI x1)]) (rest := []) ⟨hx, hb, hml, hown, hts⟩ (mc_X12_isPersonB l dC dI cB cI cJ cZ cQ q _ x1 hI hx1) (cwV 1 hts (goodV (wl_in_5 _ (List.mem_of_getElem? (i := 55) rfl)) (wl_in_5 _ (List.mem_of_getElem? (i := 56) rfl)) (wl_in_5 _ (List.mem_of_getElem? (i := 57) rfl)) (wl_in_0 _ (List.mem_of_getElem? (i := 8) rfl)) (wl_in_4 _ (List.mem_of_getElem? (i := 40) rfl))) rfl rfl rfl (by decide +kernel) ⟨Nat.le_of_ble_eq_true rfl, Nat.le_of_ble_eq_true rfl⟩) hK hDD hA0 hP hS 0 12 wm0 rfl rfl hl.1 (Nat.le_of_ble_eq_true rfl) dX12_lay_2 (fun z1 A2 H locs hw3 hP hS => ?_)
  obtain ⟨rfl, hw3⟩ := hw3
  have rz1 : 0 ≤ z1 ∧ z1 ≤ 1 := hw3.1
  have J49_6 : ∀ (z25 : Int) (H : Heap) (locs : List Loc) (ls : Array Slot), (0 ≤ z25 ∧ z25 ≤ 1) → ((z25 = 1 ∧ ¬ z1 = 0) ∨ (z25 = 0)) → (z25 = 1 → 0 ≤ x1 ∧ x1 ≤ 2 ∧ 0 ≤ x2 ∧ x2 ≤ 3 ∧ -1 ≤ x3 ∧ x3 ≤ 9) → va_P (dC, dI) vwCl (WM cI cJ cZ q A) H → va_S AS s.heap H locs → lv_has ls 5 [(0, .ref (q 0)), (1, .int (iI x1)), (2, .int (iI x2)), (3, .int (iI x3))] → W p l e (headSpec ws_mc_X12_lay ({ frames := 4, cells := 0, slots := 0, locals := 89 } : Room)).room s m [.ref (q 0), .int (iI x1), .int (iI x2), .int (iI x3)].toArray below meth c H locs 0 0 Q (F0 m 49 ls [.int (iI z25)]) := by
    intro z25 H locs ls f27 f28 f29 hP hS hl
    clear hw3
    refine lv_istore (lv' := [(4, .int (iI z25)), (0, .ref (q 0)), (1, .int (iI x1)), (2, .int (iI x2)), (3, .int (iI x3))]) hx hb dX12_lay_49 hl (by decide) rfl (fun ls hl => ?_)
    refine lv_iload hx hb dX12_lay_51 (lv_at hl 0 rfl) ?_
    refine lv_if_ne (tgt := 70) hx hb dX12_lay_53 (by decide) (fun c30 => ?_) (fun c30 => ?_)
    · have c30 : ¬ z25 = 0 := mt (i_eq0 (rb f27 (by decide) (by decide))).mpr c30
      have f29b := f29 (by omega)
      clear f29
      refine lv_aload_n hx hb dX12_lay_70 rfl (lv_at hl 1 rfl) ?_
      refine va_get (D := (dC, dI)) (ci := 12) (v := .ref (q 13)) (C := RX12) (T := TX12) (N := 85) hx hb hts hiX12 hown hK hP 0 wm0 rfl 24 (by decide) (hts _ (List.mem_cons_of_mem _ (wl_in_2 _ (List.mem_of_getElem? (i := 58) rfl)))) (fun _ h9 => h9) rfl dX12_lay_71 ?_
      refine lv_aload_n hx hb dX12_lay_74 rfl (lv_at hl 1 rfl) ?_
      refine lv_iload_n hx hb dX12_lay_75 rfl (lv_at hl 3 rfl) ?_
      refine x_calli (As := [.int (iI x2)]) (rest := [.ref (q 13)]) ⟨hx, hb, hml, hown, hts⟩ (mc_X12_key4 l dC dI cB cI cJ cZ cQ q _ x2 hI (by omega)) (cwV 1 hts (goodV (wl_in_4 _ (List.mem_of_getElem? (i := 44) rfl)) (wl_in_4 _ (List.mem_of_getElem? (i := 45) rfl)) (wl_in_4 _ (List.mem_of_getElem? (i := 46) rfl)) (wl_in_0 _ (List.mem_of_getElem? (i := 8) rfl)) (wl_in_4 _ (List.mem_of_getElem? (i := 41) rfl))) rfl rfl rfl (by decide +kernel) ⟨Nat.le_of_ble_eq_true rfl, Nat.le_of_ble_eq_true rfl⟩) hK hDD hA0 hP hS 0 12 wm0 rfl rfl hl.1 (Nat.le_of_ble_eq_true rfl) dX12_lay_76 (fun z31 A32 H locs hw33 hP hS => ?_)
      obtain ⟨rfl, hw33⟩ := hw33
      refine tp_i (y := iI (4 * (A 0 12) + x2)) (congrArg iI (show z31 = 4 * (A 0 12) + x2 by omega)) ?_
      clear hw33 z31
      refine lv_iload_n hx hb dX12_lay_79 rfl (lv_at hl 4 rfl) ?_
      refine lv_iconst (v := iI (-1)) hx hb dX12_lay_80 (by decide +kernel) ?_
      refine lv_icmp_ne (tgt := 95) hx hb dX12_lay_81 (by decide) (fun c34 => ?_) (fun c34 => ?_)
      · have c34 : ¬ x3 = (-1) := mt (i_eq hx3 ⟨by decide, by decide⟩).mpr c34
        refine lv_bipush (v := iI 20) hx hb dX12_lay_95 (by decide +kernel) ?_
        refine lv_iload_n hx hb dX12_lay_97 rfl (lv_at hl 4 rfl) ?_
        refine x_addv (v := x3 + 20) hx hb dX12_lay_98 (by omega) ?_
        refine x_iast hx hb hK hP hDD hS 13 1 wm13 rfl (by omega) (by decide) dX12_lay_99 ws13 (fun H locs hP hS => ?_)
        have hI := hI.st (j := 13) (i := (4 * (A 0 12) + x2).toNat) (v := x3 + 20) (show (0 : Int) ≤ x3 + 20 ∧ x3 + 20 ≤ 40 from (by omega))
        refine lv_iconst (v := iI 1) hx hb dX12_lay_100 (by decide +kernel) ?_
        exact RET 1 _ _ _ _ _ ⟨hI, fr.st (fr.rf) (by decide) rfl, by omega⟩ hP hS dX12_lay_101
      · have c34 : x3 = (-1) := (i_eq hx3 ⟨by decide, by decide⟩).mp c34
        refine lv_bipush (v := iI 10) hx hb dX12_lay_84 (by decide +kernel) ?_
        refine lv_aload_n hx hb dX12_lay_86 rfl (lv_at hl 1 rfl) ?_
        refine lv_iload_n hx hb dX12_lay_87 rfl (lv_at hl 2 rfl) ?_
        refine x_calli (As := [.int (iI x1)]) (rest := [.int (iI 10), .int (iI (4 * (A 0 12) + x2)), .ref (q 13)]) ⟨hx, hb, hml, hown, hts⟩ (mc_X12_placeOf l dC dI cB cI cJ cZ cQ q _ x1 hI (by omega)) (cwV 1 hts (goodV (wl_in_5 _ (List.mem_of_getElem? (i := 35) rfl)) (wl_in_5 _ (List.mem_of_getElem? (i := 36) rfl)) (wl_in_5 _ (List.mem_of_getElem? (i := 37) rfl)) (wl_in_0 _ (List.mem_of_getElem? (i := 8) rfl)) (wl_in_5 _ (List.mem_of_getElem? (i := 25) rfl))) rfl rfl rfl (by decide +kernel) ⟨Nat.le_of_ble_eq_true rfl, Nat.le_of_ble_eq_true rfl⟩) hK hDD hA0 hP hS 0 12 wm0 rfl rfl hl.1 (Nat.le_of_ble_eq_true rfl) dX12_lay_88 (fun z35 A36 H locs hw37 hP hS => ?_)
        obtain ⟨rfl, hw37⟩ := hw37
        refine x_addv (v := z35 + 10) hx hb dX12_lay_91 (by omega) ?_
        refine lv_goto (tgt := 99) hx hb dX12_lay_92 (by decide) ?_
        refine x_iast hx hb hK hP hDD hS 13 1 wm13 rfl (by omega) (by decide) dX12_lay_99 ws13 (fun H locs hP hS => ?_)
        have hI := hI.st (j := 13) (i := (4 * (A 0 12) + x2).toNat) (v := z35 + 10) (show (0 : Int) ≤ z35 + 10 ∧ z35 + 10 ≤ 40 from (by omega))
        refine lv_iconst (v := iI 1) hx hb dX12_lay_100 (by decide +kernel) ?_
        exact RET 1 _ _ _ _ _ ⟨hI, fr.st (fr.rf) (by decide) rfl, by omega⟩ hP hS dX12_lay_101
    · have c30 : z25 = 0 := (i_eq0 (rb f27 (by decide) (by decide))).mp c30
      clear f29
      refine lv_aload_n hx hb dX12_lay_56 rfl (lv_at hl 1 rfl) ?_
      refine lv_iconst (v := iI 3) hx hb dX12_lay_57 (by decide +kernel) ?_
      refine x_calli (As := [.int (iI 3)]) (rest := []) ⟨hx, hb, hml, hown, hts⟩ (mc_X12_refuses l dC dI cB cI cJ cZ cQ q _ 3 hI ⟨by decide, by decide⟩) (cwV 1 hts (goodV (wl_in_0 _ (List.mem_of_getElem? (i := 5) rfl)) (wl_in_0 _ (List.mem_of_getElem? (i := 6) rfl)) (wl_in_0 _ (List.mem_of_getElem? (i := 7) rfl)) (wl_in_0 _ (List.mem_of_getElem? (i := 8) rfl)) (wl_in_0 _ (List.mem_of_getElem? (i := 9) rfl))) rfl rfl rfl (by decide +kernel) ⟨Nat.le_of_ble_eq_true rfl, Nat.le_of_ble_eq_true rfl⟩) hK hDD hA0 hP hS 0 12 wm0 rfl rfl hl.1 (Nat.le_of_ble_eq_true rfl) dX12_lay_58 (fun z38 A39 H locs hw40 hP hS => ?_)
      obtain ⟨_, hI, hf41, hw40⟩ := hw40
      refine lv_if_lt (tgt := 68) hx hb dX12_lay_61 (by decide) (fun _ => ?_) (fun c42 => False.elim (by have c42 : ¬ z38 < 0 := mt (i_lt0 (by omega)).mpr c42; omega))
      refine lv_iconst (v := iI 0) hx hb dX12_lay_68 (by decide +kernel) ?_
      exact RET 0 _ _ _ _ _ ⟨hI, fr.trans (fr.rf) hf41 rfl rfl, by omega⟩ hP hS dX12_lay_69
  have J48_5 : ∀ (H : Heap) (locs : List Loc) (ls : Array Slot), va_P (dC, dI) vwCl (WM cI cJ cZ q A) H → va_S AS s.heap H locs → lv_has ls 5 [(0, .ref (q 0)), (1, .int (iI x1)), (2, .int (iI x2)), (3, .int (iI x3))] → W p l e (headSpec ws_mc_X12_lay ({ frames := 4, cells := 0, slots := 0, locals := 89 } : Room)).room s m [.ref (q 0), .int (iI x1), .int (iI x2), .int (iI x3)].toArray below meth c H locs 0 0 Q (F0 m 48 ls []) := by
    intro H locs ls hP hS hl
    clear hw3
    refine lv_iconst (v := iI 0) hx hb dX12_lay_48 (by decide +kernel) ?_
    exact J49_6 0 _ _ _ (by omega) (by omega) (by omega) hP hS (lv_sub hl [0, 1, 2, 3] rfl)
  refine lv_if_eq (tgt := 48) hx hb dX12_lay_5 (by decide) (fun c4 => ?_) (fun c4 => ?_)
  · have c4 : z1 = 0 := (i_eq0 (rb rz1 (by decide) (by decide))).mp c4
    clear hw3
    exact J48_5 _ _ _ hP hS (lv_sub hl [0, 1, 2, 3] rfl)
  · have c4 : ¬ z1 = 0 := mt (i_eq0 (rb rz1 (by decide) (by decide))).mpr c4
    have hw3b := hw3.2.mp (by omega)
    clear hw3
    refine lv_aload_n hx hb dX12_lay_8 rfl (lv_at hl 0 rfl) ?_
    refine lv_iload_n hx hb dX12_lay_9 rfl (lv_at hl 2 rfl) ?_
    refine x_calli (As := [.int (iI x2)]) (rest := []) ⟨hx, hb, hml, hown, hts⟩ (mc_X12_isKeyB l dC dI cB cI cJ cZ cQ q _ x2 hI hx2) (cwV 1 hts (goodV (wl_in_5 _ (List.mem_of_getElem? (i := 18) rfl)) (wl_in_5 _ (List.mem_of_getElem? (i := 19) rfl)) (wl_in_5 _ (List.mem_of_getElem? (i := 20) rfl)) (wl_in_0 _ (List.mem_of_getElem? (i := 8) rfl)) (wl_in_4 _ (List.mem_of_getElem? (i := 39) rfl))) rfl rfl rfl (by decide +kernel) ⟨Nat.le_of_ble_eq_true rfl, Nat.le_of_ble_eq_true rfl⟩) hK hDD hA0 hP hS 0 12 wm0 rfl rfl hl.1 (Nat.le_of_ble_eq_true rfl) dX12_lay_10 (fun z7 A8 H locs hw9 hP hS => ?_)
    obtain ⟨rfl, hw9⟩ := hw9
    have rz7 : 0 ≤ z7 ∧ z7 ≤ 1 := hw9.1
    refine lv_if_eq (tgt := 48) hx hb dX12_lay_13 (by decide) (fun c10 => ?_) (fun c10 => ?_)
    · have c10 : z7 = 0 := (i_eq0 (rb rz7 (by decide) (by decide))).mp c10
      clear hw9
      exact J48_5 _ _ _ hP hS (lv_sub hl [0, 1, 2, 3] rfl)
    · have c10 : ¬ z7 = 0 := mt (i_eq0 (rb rz7 (by decide) (by decide))).mpr c10
      have hw9b := hw9.2.mp (by omega)
      clear hw9
      refine lv_aload_n hx hb dX12_lay_16 rfl (lv_at hl 0 rfl) ?_
      refine va_get (D := (dC, dI)) (ci := 12) (v := .ref (q 13)) (C := RX12) (T := TX12) (N := 85) hx hb hts hiX12 hown hK hP 0 wm0 rfl 24 (by decide) (hts _ (List.mem_cons_of_mem _ (wl_in_2 _ (List.mem_of_getElem? (i := 58) rfl)))) (fun _ h9 => h9) rfl dX12_lay_17 ?_
      refine lv_aload_n hx hb dX12_lay_20 rfl (lv_at hl 0 rfl) ?_
      refine lv_iload_n hx hb dX12_lay_21 rfl (lv_at hl 2 rfl) ?_
      refine x_calli (As := [.int (iI x2)]) (rest := [.ref (q 13)]) ⟨hx, hb, hml, hown, hts⟩ (mc_X12_key4 l dC dI cB cI cJ cZ cQ q _ x2 hI (by omega)) (cwV 1 hts (goodV (wl_in_4 _ (List.mem_of_getElem? (i := 44) rfl)) (wl_in_4 _ (List.mem_of_getElem? (i := 45) rfl)) (wl_in_4 _ (List.mem_of_getElem? (i := 46) rfl)) (wl_in_0 _ (List.mem_of_getElem? (i := 8) rfl)) (wl_in_4 _ (List.mem_of_getElem? (i := 41) rfl))) rfl rfl rfl (by decide +kernel) ⟨Nat.le_of_ble_eq_true rfl, Nat.le_of_ble_eq_true rfl⟩) hK hDD hA0 hP hS 0 12 wm0 rfl rfl hl.1 (Nat.le_of_ble_eq_true rfl) dX12_lay_22 (fun z11 A12 H locs hw13 hP hS => ?_)
      obtain ⟨rfl, hw13⟩ := hw13
      refine tp_i (y := iI (4 * (A 0 12) + x2)) (congrArg iI (show z11 = 4 * (A 0 12) + x2 by omega)) ?_
      clear hw13 z11
      refine x_iald hx hb hK hP 13 1 wm13 rfl (by omega) (by decide) dX12_lay_25 (fun z14 hz14 => ?_)
      have rz14 : (0 : Int) ≤ z14 ∧ z14 ≤ 40 := by rw [hz14]; exact hI 13 _
      have hz14 : z14 = A 13 (4 * (A 0 12) + x2).toNat := hz14
      refine lv_iload_n hx hb dX12_lay_26 rfl (lv_at hl 1 rfl) ?_
      refine lv_icmp_ne (tgt := 48) hx hb dX12_lay_27 (by decide) (fun c15 => ?_) (fun c15 => ?_)
      · have c15 : ¬ z14 = x1 := mt (i_eq (rb rz14 (by decide) (by decide)) hx1).mpr c15
        exact J48_5 _ _ _ hP hS (lv_sub hl [0, 1, 2, 3] rfl)
      · have c15 : z14 = x1 := (i_eq (rb rz14 (by decide) (by decide)) hx1).mp c15
        refine lv_iload_n hx hb dX12_lay_30 rfl (lv_at hl 3 rfl) ?_
        refine lv_iconst (v := iI (-1)) hx hb dX12_lay_31 (by decide +kernel) ?_
        have J44_17 : ∀ (H : Heap) (locs : List Loc) (ls : Array Slot), (-1 ≤ x3 ∧ x3 ≤ 9) → va_P (dC, dI) vwCl (WM cI cJ cZ q A) H → va_S AS s.heap H locs → lv_has ls 5 [(0, .ref (q 0)), (1, .int (iI x1)), (2, .int (iI x2)), (3, .int (iI x3))] → W p l e (headSpec ws_mc_X12_lay ({ frames := 4, cells := 0, slots := 0, locals := 89 } : Room)).room s m [.ref (q 0), .int (iI x1), .int (iI x2), .int (iI x3)].toArray below meth c H locs 0 0 Q (F0 m 44 ls []) := by
          intro H locs ls f23 hP hS hl
          refine lv_iconst (v := iI 1) hx hb dX12_lay_44 (by decide +kernel) ?_
          refine lv_goto (tgt := 49) hx hb dX12_lay_45 (by decide) ?_
          exact J49_6 1 _ _ _ (by omega) (by omega) (by omega) hP hS (lv_sub hl [0, 1, 2, 3] rfl)
        refine lv_icmp_eq (tgt := 44) hx hb dX12_lay_32 (by decide) (fun c16 => ?_) (fun c16 => ?_)
        · have c16 : x3 = (-1) := (i_eq hx3 ⟨by decide, by decide⟩).mp c16
          exact J44_17 _ _ _ (by omega) hP hS (lv_sub hl [0, 1, 2, 3] rfl)
        · have c16 : ¬ x3 = (-1) := mt (i_eq hx3 ⟨by decide, by decide⟩).mpr c16
          refine lv_aload_n hx hb dX12_lay_35 rfl (lv_at hl 0 rfl) ?_
          refine lv_iload_n hx hb dX12_lay_36 rfl (lv_at hl 1 rfl) ?_
          refine lv_iload_n hx hb dX12_lay_37 rfl (lv_at hl 3 rfl) ?_
          refine x_calli (As := [.int (iI x1), .int (iI x3)]) (rest := []) ⟨hx, hb, hml, hown, hts⟩ (mc_X12_isOpenBox l dC dI cB cI cJ cZ cQ q _ x1 x3 hI (by omega) hx3) (cwV 2 hts (goodV (wl_in_6 _ (List.mem_of_getElem? (i := 12) rfl)) (wl_in_6 _ (List.mem_of_getElem? (i := 13) rfl)) (wl_in_6 _ (List.mem_of_getElem? (i := 14) rfl)) (wl_in_0 _ (List.mem_of_getElem? (i := 8) rfl)) (wl_in_6 _ (List.mem_of_getElem? (i := 10) rfl))) rfl rfl rfl (by decide +kernel) ⟨Nat.le_of_ble_eq_true rfl, Nat.le_of_ble_eq_true rfl⟩) hK hDD hA0 hP hS 0 12 wm0 rfl rfl hl.1 (Nat.le_of_ble_eq_true rfl) dX12_lay_38 (fun z18 A19 H locs hw20 hP hS => ?_)
          obtain ⟨rfl, hw20⟩ := hw20
          have rz18 : 0 ≤ z18 ∧ z18 ≤ 1 := hw20.1
          refine lv_if_eq (tgt := 48) hx hb dX12_lay_41 (by decide) (fun c21 => ?_) (fun c21 => ?_)
          · have c21 : z18 = 0 := (i_eq0 (rb rz18 (by decide) (by decide))).mp c21
            exact J48_5 _ _ _ hP hS (lv_sub hl [0, 1, 2, 3] rfl)
          · have c21 : ¬ z18 = 0 := mt (i_eq0 (rb rz18 (by decide) (by decide))).mpr c21
            exact J44_17 _ _ _ (by omega) hP hS (lv_sub hl [0, 1, 2, 3] rfl)

def ws_mc_X12_snap : List Cond := .code yX12_snap cX12_snap 2 (some .int) :: WX
set_option maxHeartbeats 4000000 in
set_option maxRecDepth 100000 in
theorem mc_X12_snap (l : Launch) (dC : Nat → ClassId) (dI : Nat → Nat → Nat) (cB cI cJ cZ cQ : ClassId) (q : Nat → Nat) (A : St) (x1 : Int) (hI : IM A) (hx1 : (-2147483648 : Int) ≤ x1 ∧ x1 ≤ 2147483647) : XMi l yX12_snap ws_mc_X12_snap ({ frames := 2, cells := 0, slots := 0, locals := 43 } : Room) (dC, dI) (tyA cB cI cJ cZ cQ) (WM cI cJ cZ q) A [.ref (q 0), .int (iI x1)] (fun z u => IM u ∧ fr [13, 41] [] A u ∧ (-2147483648 ≤ z ∧ z ≤ 2147483647)) := by
  refine x_meti (cc := cX12_snap) (maxL := 2) WM_adr (by decide +kernel) rfl (Nat.le_of_ble_eq_true rfl) (fun p e s m below meth c Q AS ls hx hb hml hown hts hK hDD hA0 hP hS hl RET => ?_)
  have hown : s.vm.findClass RX12 = some m.cls := hown
  have hl : lv_has ls 2 [(0, .ref (q 0)), (1, .int (iI x1))] := hl
  have hiX12 : ∀ w ∈ u_ws RX12 TX12 85, w ∈ ws_mc_X12_snap := fun w h => List.mem_cons_of_mem _ (wx_lay w h)
  obtain ⟨H, hHe⟩ : ∃ H : Heap, H = s.heap := ⟨_, rfl⟩
  rw [← hHe] at hP
  have hS : va_S AS s.heap H [] := by rw [hHe]; exact hS
  suffices hgo : ∀ locs : List Loc, va_S AS s.heap H locs → W p l e (headSpec ws_mc_X12_snap ({ frames := 2, cells := 0, slots := 0, locals := 43 } : Room)).room s m [.ref (q 0), .int (iI x1)].toArray below meth c H locs 0 0 Q (F0 m 0 ls []) by
    have := hgo [] hS
    rw [hHe] at this
    exact this
  clear hS hHe
  intro locs hS
  refine lv_aload_n hx hb dX12_snap_0 rfl (lv_at hl 0 rfl) ?_
  refine lv_iload_n hx hb dX12_snap_1 rfl (lv_at hl 1 rfl) ?_
  have r_A_0_12 : (0 : Int) ≤ (A 0 12) ∧ (A 0 12) ≤ 1 := hI 0 12
  refine x_calli (As := [.int (iI x1)]) (rest := []) ⟨hx, hb, hml, hown, hts⟩ (mc_X12_isKeyB l dC dI cB cI cJ cZ cQ q _ x1 hI hx1) (cwV 1 hts (goodV (wl_in_5 _ (List.mem_of_getElem? (i := 18) rfl)) (wl_in_5 _ (List.mem_of_getElem? (i := 19) rfl)) (wl_in_5 _ (List.mem_of_getElem? (i := 20) rfl)) (wl_in_0 _ (List.mem_of_getElem? (i := 8) rfl)) (wl_in_4 _ (List.mem_of_getElem? (i := 39) rfl))) rfl rfl rfl (by decide +kernel) ⟨Nat.le_of_ble_eq_true rfl, Nat.le_of_ble_eq_true rfl⟩) hK hDD hA0 hP hS 0 12 wm0 rfl rfl hl.1 (Nat.le_of_ble_eq_true rfl) dX12_snap_2 (fun z1 A2 H locs hw3 hP hS => ?_)
  obtain ⟨rfl, hw3⟩ := hw3
  have rz1 : 0 ≤ z1 ∧ z1 ≤ 1 := hw3.1
  refine lv_if_eq (tgt := 23) hx hb dX12_snap_5 (by decide) (fun c4 => ?_) (fun c4 => ?_)
  · have c4 : z1 = 0 := (i_eq0 (rb rz1 (by decide) (by decide))).mp c4
    clear hw3
    refine lv_aload_n hx hb dX12_snap_23 rfl (lv_at hl 0 rfl) ?_
    refine lv_iconst (v := iI 3) hx hb dX12_snap_24 (by decide +kernel) ?_
    refine x_calli (As := [.int (iI 3)]) (rest := []) ⟨hx, hb, hml, hown, hts⟩ (mc_X12_refuses l dC dI cB cI cJ cZ cQ q _ 3 hI ⟨by decide, by decide⟩) (cwV 1 hts (goodV (wl_in_0 _ (List.mem_of_getElem? (i := 5) rfl)) (wl_in_0 _ (List.mem_of_getElem? (i := 6) rfl)) (wl_in_0 _ (List.mem_of_getElem? (i := 7) rfl)) (wl_in_0 _ (List.mem_of_getElem? (i := 8) rfl)) (wl_in_0 _ (List.mem_of_getElem? (i := 9) rfl))) rfl rfl rfl (by decide +kernel) ⟨Nat.le_of_ble_eq_true rfl, Nat.le_of_ble_eq_true rfl⟩) hK hDD hA0 hP hS 0 12 wm0 rfl rfl hl.1 (Nat.le_of_ble_eq_true rfl) dX12_snap_25 (fun z5 A6 H locs hw7 hP hS => ?_)
    obtain ⟨_, hI, hf8, hw7⟩ := hw7
    exact RET z5 _ _ _ _ _ ⟨hI, fr.trans (fr.rf) hf8 rfl rfl, by omega⟩ hP hS dX12_snap_28
  · have c4 : ¬ z1 = 0 := mt (i_eq0 (rb rz1 (by decide) (by decide))).mpr c4
    have hw3b := hw3.2.mp (by omega)
    clear hw3
    refine lv_aload_n hx hb dX12_snap_8 rfl (lv_at hl 0 rfl) ?_
    refine va_get (D := (dC, dI)) (ci := 12) (v := .ref (q 13)) (C := RX12) (T := TX12) (N := 85) hx hb hts hiX12 hown hK hP 0 wm0 rfl 24 (by decide) (hts _ (List.mem_cons_of_mem _ (wl_in_2 _ (List.mem_of_getElem? (i := 58) rfl)))) (fun _ h9 => h9) rfl dX12_snap_9 ?_
    refine lv_aload_n hx hb dX12_snap_12 rfl (lv_at hl 0 rfl) ?_
    refine lv_iload_n hx hb dX12_snap_13 rfl (lv_at hl 1 rfl) ?_
    refine x_calli (As := [.int (iI x1)]) (rest := [.ref (q 13)]) ⟨hx, hb, hml, hown, hts⟩ (mc_X12_key4 l dC dI cB cI cJ cZ cQ q _ x1 hI (by omega)) (cwV 1 hts (goodV (wl_in_4 _ (List.mem_of_getElem? (i := 44) rfl)) (wl_in_4 _ (List.mem_of_getElem? (i := 45) rfl)) (wl_in_4 _ (List.mem_of_getElem? (i := 46) rfl)) (wl_in_0 _ (List.mem_of_getElem? (i := 8) rfl)) (wl_in_4 _ (List.mem_of_getElem? (i := 41) rfl))) rfl rfl rfl (by decide +kernel) ⟨Nat.le_of_ble_eq_true rfl, Nat.le_of_ble_eq_true rfl⟩) hK hDD hA0 hP hS 0 12 wm0 rfl rfl hl.1 (Nat.le_of_ble_eq_true rfl) dX12_snap_14 (fun z9 A10 H locs hw11 hP hS => ?_)
    obtain ⟨rfl, hw11⟩ := hw11
    refine tp_i (y := iI (4 * (A 0 12) + x1)) (congrArg iI (show z9 = 4 * (A 0 12) + x1 by omega)) ?_
    clear hw11 z9
    refine x_iald hx hb hK hP 13 1 wm13 rfl (by omega) (by decide) dX12_snap_17 (fun z12 hz12 => ?_)
    have rz12 : (0 : Int) ≤ z12 ∧ z12 ≤ 40 := by rw [hz12]; exact hI 13 _
    have hz12 : z12 = A 13 (4 * (A 0 12) + x1).toNat := hz12
    refine lv_bipush (v := iI 40) hx hb dX12_snap_18 (by decide +kernel) ?_
    refine lv_icmp_ne (tgt := 29) hx hb dX12_snap_20 (by decide) (fun c13 => ?_) (fun c13 => ?_)
    · have c13 : ¬ z12 = 40 := mt (i_eq (rb rz12 (by decide) (by decide)) ⟨by decide, by decide⟩).mpr c13
      refine lv_aload_n hx hb dX12_snap_29 rfl (lv_at hl 0 rfl) ?_
      refine va_get (D := (dC, dI)) (ci := 12) (v := .ref (q 13)) (C := RX12) (T := TX12) (N := 85) hx hb hts hiX12 hown hK hP 0 wm0 rfl 24 (by decide) (hts _ (List.mem_cons_of_mem _ (wl_in_2 _ (List.mem_of_getElem? (i := 58) rfl)))) (fun _ h9 => h9) rfl dX12_snap_30 ?_
      refine lv_aload_n hx hb dX12_snap_33 rfl (lv_at hl 0 rfl) ?_
      refine lv_iload_n hx hb dX12_snap_34 rfl (lv_at hl 1 rfl) ?_
      refine x_calli (As := [.int (iI x1)]) (rest := [.ref (q 13)]) ⟨hx, hb, hml, hown, hts⟩ (mc_X12_key4 l dC dI cB cI cJ cZ cQ q _ x1 hI (by omega)) (cwV 1 hts (goodV (wl_in_4 _ (List.mem_of_getElem? (i := 44) rfl)) (wl_in_4 _ (List.mem_of_getElem? (i := 45) rfl)) (wl_in_4 _ (List.mem_of_getElem? (i := 46) rfl)) (wl_in_0 _ (List.mem_of_getElem? (i := 8) rfl)) (wl_in_4 _ (List.mem_of_getElem? (i := 41) rfl))) rfl rfl rfl (by decide +kernel) ⟨Nat.le_of_ble_eq_true rfl, Nat.le_of_ble_eq_true rfl⟩) hK hDD hA0 hP hS 0 12 wm0 rfl rfl hl.1 (Nat.le_of_ble_eq_true rfl) dX12_snap_35 (fun z14 A15 H locs hw16 hP hS => ?_)
      obtain ⟨rfl, hw16⟩ := hw16
      refine tp_i (y := iI (4 * (A 0 12) + x1)) (congrArg iI (show z14 = 4 * (A 0 12) + x1 by omega)) ?_
      clear hw16 z14
      refine lv_bipush (v := iI 40) hx hb dX12_snap_38 (by decide +kernel) ?_
      refine x_iast hx hb hK hP hDD hS 13 1 wm13 rfl (by omega) (by decide) dX12_snap_40 ws13 (fun H locs hP hS => ?_)
      have hI := hI.st (j := 13) (i := (4 * (A 0 12) + x1).toNat) (v := 40) (show (0 : Int) ≤ 40 ∧ 40 ≤ 40 from (by omega))
      refine lv_aload_n hx hb dX12_snap_41 rfl (lv_at hl 0 rfl) ?_
      refine va_get (D := (dC, dI)) (ci := 12) (v := .ref (q 14)) (C := RX12) (T := TX12) (N := 85) hx hb hts hiX12 hown hK hP 0 wm0 rfl 25 (by decide) (hts _ (List.mem_cons_of_mem _ (wl_in_2 _ (List.mem_of_getElem? (i := 59) rfl)))) (fun _ h9 => h9) rfl dX12_snap_42 ?_
      refine lv_aload_n hx hb dX12_snap_45 rfl (lv_at hl 0 rfl) ?_
      refine lv_iload_n hx hb dX12_snap_46 rfl (lv_at hl 1 rfl) ?_
      obtain ⟨A17, hA17⟩ : ∃ A17 : St, A17 = (stA A 13 (4 * (A 0 12) + x1).toNat 40) := ⟨_, rfl⟩
      rw [← hA17] at hP hI
      have e_A17_12 : A17 0 12 = (A 0 12) := by rw [hA17]; exact rfl
      refine x_calli (As := [.int (iI x1)]) (rest := [.ref (q 14)]) ⟨hx, hb, hml, hown, hts⟩ (mc_X12_key4 l dC dI cB cI cJ cZ cQ q _ x1 hI (by omega)) (cwV 1 hts (goodV (wl_in_4 _ (List.mem_of_getElem? (i := 44) rfl)) (wl_in_4 _ (List.mem_of_getElem? (i := 45) rfl)) (wl_in_4 _ (List.mem_of_getElem? (i := 46) rfl)) (wl_in_0 _ (List.mem_of_getElem? (i := 8) rfl)) (wl_in_4 _ (List.mem_of_getElem? (i := 41) rfl))) rfl rfl rfl (by decide +kernel) ⟨Nat.le_of_ble_eq_true rfl, Nat.le_of_ble_eq_true rfl⟩) hK hDD hA0 hP hS 0 12 wm0 rfl rfl hl.1 (Nat.le_of_ble_eq_true rfl) dX12_snap_47 (fun z18 A19 H locs hw20 hP hS => ?_)
      obtain ⟨rfl, hw20⟩ := hw20
      refine tp_i (y := iI (4 * (A 0 12) + x1)) (congrArg iI (show z18 = 4 * (A 0 12) + x1 by omega)) ?_
      clear hw20 z18
      have a_A17_14 : A17 14 = A 14 := by rw [hA17]; exact rfl
      refine x_iald hx hb hK hP 14 1 wm14 rfl (by omega) (by decide) dX12_snap_50 (fun z21 hz21 => ?_)
      have rz21 : (0 : Int) ≤ z21 ∧ z21 ≤ 6 := by rw [hz21]; exact hI 14 _
      have hz21 : z21 = A 14 (4 * (A 0 12) + x1).toNat := hz21.trans (congrFun a_A17_14 _)
      exact RET z21 _ _ _ _ _ ⟨hI, fr_def hA17 (fr.st (fr.rf) (by decide) rfl), by omega⟩ hP hS dX12_snap_51
    · have c13 : z12 = 40 := (i_eq (rb rz12 (by decide) (by decide)) ⟨by decide, by decide⟩).mp c13
      refine lv_aload_n hx hb dX12_snap_23 rfl (lv_at hl 0 rfl) ?_
      refine lv_iconst (v := iI 3) hx hb dX12_snap_24 (by decide +kernel) ?_
      refine x_calli (As := [.int (iI 3)]) (rest := []) ⟨hx, hb, hml, hown, hts⟩ (mc_X12_refuses l dC dI cB cI cJ cZ cQ q _ 3 hI ⟨by decide, by decide⟩) (cwV 1 hts (goodV (wl_in_0 _ (List.mem_of_getElem? (i := 5) rfl)) (wl_in_0 _ (List.mem_of_getElem? (i := 6) rfl)) (wl_in_0 _ (List.mem_of_getElem? (i := 7) rfl)) (wl_in_0 _ (List.mem_of_getElem? (i := 8) rfl)) (wl_in_0 _ (List.mem_of_getElem? (i := 9) rfl))) rfl rfl rfl (by decide +kernel) ⟨Nat.le_of_ble_eq_true rfl, Nat.le_of_ble_eq_true rfl⟩) hK hDD hA0 hP hS 0 12 wm0 rfl rfl hl.1 (Nat.le_of_ble_eq_true rfl) dX12_snap_25 (fun z22 A23 H locs hw24 hP hS => ?_)
      obtain ⟨_, hI, hf25, hw24⟩ := hw24
      exact RET z22 _ _ _ _ _ ⟨hI, fr.trans (fr.rf) hf25 rfl rfl, by omega⟩ hP hS dX12_snap_28

def ws_mc_X12_notes : List Cond := .code yX12_notes cX12_notes 2 none :: WX
set_option maxHeartbeats 4000000 in
set_option maxRecDepth 100000 in
theorem mc_X12_notes (l : Launch) (dC : Nat → ClassId) (dI : Nat → Nat → Nat) (cB cI cJ cZ cQ : ClassId) (q : Nat → Nat) (A : St) (hI : IM A) : XMv l yX12_notes ws_mc_X12_notes ({ frames := 1, cells := 0, slots := 0, locals := 21 } : Room) (dC, dI) (tyA cB cI cJ cZ cQ) (WM cI cJ cZ q) A [.ref (q 0)] (fun u => IM u ∧ fr [44, 45, 46] [] A u ∧ (True)) := by
  refine x_metv (cc := cX12_notes) (maxL := 2) WM_adr (by decide +kernel) rfl (Nat.le_of_ble_eq_true rfl) (fun p e s m below meth c Q AS ls hx hb hml hown hts hK hDD hA0 hP hS hl RET => ?_)
  have hown : s.vm.findClass RX12 = some m.cls := hown
  have hl : lv_has ls 2 [(0, .ref (q 0))] := hl
  have hiX12 : ∀ w ∈ u_ws RX12 TX12 85, w ∈ ws_mc_X12_notes := fun w h => List.mem_cons_of_mem _ (wx_lay w h)
  obtain ⟨H, hHe⟩ : ∃ H : Heap, H = s.heap := ⟨_, rfl⟩
  rw [← hHe] at hP
  have hS : va_S AS s.heap H [] := by rw [hHe]; exact hS
  suffices hgo : ∀ locs : List Loc, va_S AS s.heap H locs → W p l e (headSpec ws_mc_X12_notes ({ frames := 1, cells := 0, slots := 0, locals := 21 } : Room)).room s m [.ref (q 0)].toArray below meth c H locs 0 0 Q (F0 m 0 ls []) by
    have := hgo [] hS
    rw [hHe] at this
    exact this
  clear hS hHe
  intro locs hS
  refine lv_iconst (v := iI 0) hx hb dX12_notes_0 (by decide +kernel) ?_
  refine lv_istore_n (lv' := [(1, .int (iI 0)), (0, .ref (q 0))]) hx hb dX12_notes_1 rfl hl (by decide) rfl (fun ls hl => ?_)
  have L2_4 : ∀ (n6 : Nat) (z1 : Int) (A3 : St) (H : Heap) (locs : List Loc) (ls : Array Slot), (0 ≤ z1) → (0 ≤ z1 ∧ z1 ≤ 2147483647) → ((3 - z1 + 1).toNat = n6) → IM A3 → fr [44] [] A A3 → va_P (dC, dI) vwCl (WM cI cJ cZ q A3) H → va_S AS s.heap H locs → lv_has ls 2 [(1, .int (iI z1)), (0, .ref (q 0))] → W p l e (headSpec ws_mc_X12_notes ({ frames := 1, cells := 0, slots := 0, locals := 21 } : Room)).room s m [.ref (q 0)].toArray below meth c H locs 0 0 Q (F0 m 2 ls []) := by
    intro n6
    induction n6 using Nat.strongRecOn with
    | ind n6 ih5 =>
      intro z1 A3 H locs ls f7 f8 hn6 hI hj2 hP hS hl
      refine lv_iload_n hx hb dX12_notes_2 rfl (lv_at hl 0 rfl) ?_
      refine lv_iconst (v := iI 3) hx hb dX12_notes_3 (by decide +kernel) ?_
      refine lv_icmp_ge (tgt := 32) hx hb dX12_notes_4 (by decide) (fun c9 => ?_) (fun c9 => ?_)
      · have c9 : 3 ≤ z1 := (i_le ⟨by decide, by decide⟩ (rb f8 (by decide) (by decide))).mp c9
        refine lv_iconst (v := iI 0) hx hb dX12_notes_32 (by decide +kernel) ?_
        refine lv_istore_n (lv' := [(1, .int (iI 0)), (0, .ref (q 0))]) hx hb dX12_notes_33 rfl hl (by decide) rfl (fun ls hl => ?_)
        have L34_13 : ∀ (n15 : Nat) (z10 : Int) (A12 : St) (H : Heap) (locs : List Loc) (ls : Array Slot), (0 ≤ z10) → (0 ≤ z10 ∧ z10 ≤ 2147483647) → ((4 - z10 + 1).toNat = n15) → IM A12 → fr [45] [] A3 A12 → va_P (dC, dI) vwCl (WM cI cJ cZ q A12) H → va_S AS s.heap H locs → lv_has ls 2 [(1, .int (iI z10)), (0, .ref (q 0))] → W p l e (headSpec ws_mc_X12_notes ({ frames := 1, cells := 0, slots := 0, locals := 21 } : Room)).room s m [.ref (q 0)].toArray below meth c H locs 0 0 Q (F0 m 34 ls []) := by
          intro n15
          induction n15 using Nat.strongRecOn with
          | ind n15 ih14 =>
            intro z10 A12 H locs ls f16 f17 hn15 hI hj11 hP hS hl
            refine lv_iload_n hx hb dX12_notes_34 rfl (lv_at hl 0 rfl) ?_
            refine lv_iconst (v := iI 4) hx hb dX12_notes_35 (by decide +kernel) ?_
            refine lv_icmp_ge (tgt := 61) hx hb dX12_notes_36 (by decide) (fun c18 => ?_) (fun c18 => ?_)
            · have c18 : 4 ≤ z10 := (i_le ⟨by decide, by decide⟩ (rb f17 (by decide) (by decide))).mp c18
              refine lv_iconst (v := iI 0) hx hb dX12_notes_61 (by decide +kernel) ?_
              refine lv_istore_n (lv' := [(1, .int (iI 0)), (0, .ref (q 0))]) hx hb dX12_notes_62 rfl hl (by decide) rfl (fun ls hl => ?_)
              have L63_22 : ∀ (n24 : Nat) (z19 : Int) (A21 : St) (H : Heap) (locs : List Loc) (ls : Array Slot), (0 ≤ z19) → (0 ≤ z19 ∧ z19 ≤ 2147483647) → ((40 - z19 + 1).toNat = n24) → IM A21 → fr [46] [] A12 A21 → va_P (dC, dI) vwCl (WM cI cJ cZ q A21) H → va_S AS s.heap H locs → lv_has ls 2 [(1, .int (iI z19)), (0, .ref (q 0))] → W p l e (headSpec ws_mc_X12_notes ({ frames := 1, cells := 0, slots := 0, locals := 21 } : Room)).room s m [.ref (q 0)].toArray below meth c H locs 0 0 Q (F0 m 63 ls []) := by
                intro n24
                induction n24 using Nat.strongRecOn with
                | ind n24 ih23 =>
                  intro z19 A21 H locs ls f25 f26 hn24 hI hj20 hP hS hl
                  refine lv_iload_n hx hb dX12_notes_63 rfl (lv_at hl 0 rfl) ?_
                  refine lv_bipush (v := iI 40) hx hb dX12_notes_64 (by decide +kernel) ?_
                  refine lv_icmp_ge (tgt := 95) hx hb dX12_notes_66 (by decide) (fun c27 => ?_) (fun c27 => ?_)
                  · have c27 : 40 ≤ z19 := (i_le ⟨by decide, by decide⟩ (rb f26 (by decide) (by decide))).mp c27
                    exact RET _ _ _ _ _ ⟨hI, fr.trans (fr.trans (fr.trans (fr.rf) hj2 rfl rfl) hj11 rfl rfl) hj20 rfl rfl, trivial⟩ hP hS dX12_notes_95
                  · have c27 : ¬ 40 ≤ z19 := mt (i_le ⟨by decide, by decide⟩ (rb f26 (by decide) (by decide))).mpr c27
                    refine lv_aload_n hx hb dX12_notes_69 rfl (lv_at hl 1 rfl) ?_
                    refine va_get (D := (dC, dI)) (ci := 12) (v := .ref (q 46)) (C := RX12) (T := TX12) (N := 85) hx hb hts hiX12 hown hK hP 0 wm0 rfl 63 (by decide) (hts _ (List.mem_cons_of_mem _ (wl_in_6 _ (List.mem_of_getElem? (i := 20) rfl)))) (fun _ h9 => h9) rfl dX12_notes_70 ?_
                    refine lv_iload_n hx hb dX12_notes_73 rfl (lv_at hl 0 rfl) ?_
                    refine lv_aload_n hx hb dX12_notes_74 rfl (lv_at hl 1 rfl) ?_
                    refine va_get (D := (dC, dI)) (ci := 12) (v := .ref (q 15)) (C := RX12) (T := TX12) (N := 85) hx hb hts hiX12 hown hK hP 0 wm0 rfl 26 (by decide) (hts _ (List.mem_cons_of_mem _ (wl_in_3 _ (List.mem_of_getElem? (i := 7) rfl)))) (fun _ h9 => h9) rfl dX12_notes_75 ?_
                    refine lv_bipush (v := iI 40) hx hb dX12_notes_78 (by decide +kernel) ?_
                    refine lv_aload_n hx hb dX12_notes_80 rfl (lv_at hl 1 rfl) ?_
                    have e_A3_12 : A3 0 12 = (A 0 12) := (hj2.2 12 rfl)
                    have e_A12_12 : A12 0 12 = (A 0 12) := (hj11.2 12 rfl).trans e_A3_12
                    have e_A21_12 : A21 0 12 = (A 0 12) := (hj20.2 12 rfl).trans e_A12_12
                    refine va_get (D := (dC, dI)) (ci := 12) (v := .int (iI (A21 0 12))) (C := RX12) (T := TX12) (N := 85) hx hb hts hiX12 hown hK hP 0 wm0 rfl 12 (by decide) (hts _ (List.mem_cons_of_mem _ (wl_in_4 _ (List.mem_of_getElem? (i := 14) rfl)))) (fun _ h9 => h9) rfl dX12_notes_81 ?_
                    refine tp_i (y := iI (A 0 12)) (congrArg iI e_A21_12) ?_
                    have r_A_0_12 : (0 : Int) ≤ (A 0 12) ∧ (A 0 12) ≤ 1 := by rw [← e_A21_12]; exact hI 0 12
                    refine x_mulv (v := 40 * (A 0 12)) hx hb dX12_notes_84 (by omega) ?_
                    refine lv_iload_n hx hb dX12_notes_85 rfl (lv_at hl 0 rfl) ?_
                    refine x_addv (v := 40 * (A 0 12) + z19) hx hb dX12_notes_86 (by omega) ?_
                    have a_A3_15 : A3 15 = A 15 := (hj2.1 15 (by decide) rfl)
                    have a_A12_15 : A12 15 = A 15 := (hj11.1 15 (by decide) rfl).trans a_A3_15
                    have a_A21_15 : A21 15 = A 15 := (hj20.1 15 (by decide) rfl).trans a_A12_15
                    refine x_iald hx hb hK hP 15 1 wm15 rfl (by omega) (by decide) dX12_notes_87 (fun z28 hz28 => ?_)
                    have rz28 : (0 : Int) ≤ z28 ∧ z28 ≤ 9 := by rw [hz28]; exact hI 15 _
                    have hz28 : z28 = A 15 (40 * (A 0 12) + z19).toNat := hz28.trans (congrFun a_A21_15 _)
                    refine x_iast hx hb hK hP hDD hS 46 1 wm46 rfl (by omega) (by decide) dX12_notes_88 ws46 (fun H locs hP hS => ?_)
                    have hI := hI.st (j := 46) (i := (z19).toNat) (v := z28) (show (0 : Int) ≤ z28 ∧ z28 ≤ 9 from (by omega))
                    refine lv_iinc (v := iI (z19 + 1)) (lv' := [(1, .int (iI (z19 + 1))), (0, .ref (q 0))]) hx hb dX12_notes_89 hl (k := 0) rfl (i_inc (by omega)) (by decide) rfl (fun ls hl => ?_)
                    refine lv_goto (tgt := 63) hx hb dX12_notes_92 (by decide) ?_
                    obtain ⟨A29, hA29⟩ : ∃ A29 : St, A29 = (stA A21 46 (z19).toNat z28) := ⟨_, rfl⟩
                    rw [← hA29] at hP hI
                    exact ih23 _ (by omega) (z19 + 1) _ _ _ _ (by omega) (by omega) rfl hI (fr_def hA29 (fr.st (fr.trans (fr.rf) hj20 rfl rfl) (by decide) rfl)) hP hS (lv_sub hl [0, 1] rfl)
              exact L63_22 _ 0 _ _ _ _ (by omega) (by omega) rfl hI (fr.rf) hP hS (lv_sub hl [0, 1] rfl)
            · have c18 : ¬ 4 ≤ z10 := mt (i_le ⟨by decide, by decide⟩ (rb f17 (by decide) (by decide))).mpr c18
              refine lv_aload_n hx hb dX12_notes_39 rfl (lv_at hl 1 rfl) ?_
              refine va_get (D := (dC, dI)) (ci := 12) (v := .ref (q 45)) (C := RX12) (T := TX12) (N := 85) hx hb hts hiX12 hown hK hP 0 wm0 rfl 62 (by decide) (hts _ (List.mem_cons_of_mem _ (wl_in_6 _ (List.mem_of_getElem? (i := 19) rfl)))) (fun _ h9 => h9) rfl dX12_notes_40 ?_
              refine lv_iload_n hx hb dX12_notes_43 rfl (lv_at hl 0 rfl) ?_
              refine lv_aload_n hx hb dX12_notes_44 rfl (lv_at hl 1 rfl) ?_
              refine va_get (D := (dC, dI)) (ci := 12) (v := .ref (q 14)) (C := RX12) (T := TX12) (N := 85) hx hb hts hiX12 hown hK hP 0 wm0 rfl 25 (by decide) (hts _ (List.mem_cons_of_mem _ (wl_in_2 _ (List.mem_of_getElem? (i := 59) rfl)))) (fun _ h9 => h9) rfl dX12_notes_45 ?_
              refine lv_aload_n hx hb dX12_notes_48 rfl (lv_at hl 1 rfl) ?_
              refine lv_iload_n hx hb dX12_notes_49 rfl (lv_at hl 0 rfl) ?_
              have e_A3_12 : A3 0 12 = (A 0 12) := (hj2.2 12 rfl)
              have e_A12_12 : A12 0 12 = (A 0 12) := (hj11.2 12 rfl).trans e_A3_12
              have r_A_0_12 : (0 : Int) ≤ (A 0 12) ∧ (A 0 12) ≤ 1 := by rw [← e_A12_12]; exact hI 0 12
              refine x_calli (As := [.int (iI z10)]) (rest := [.ref (q 14), .int (iI z10), .ref (q 45)]) ⟨hx, hb, hml, hown, hts⟩ (mc_X12_key4 l dC dI cB cI cJ cZ cQ q _ z10 hI (by omega)) (cwV 1 hts (goodV (wl_in_4 _ (List.mem_of_getElem? (i := 44) rfl)) (wl_in_4 _ (List.mem_of_getElem? (i := 45) rfl)) (wl_in_4 _ (List.mem_of_getElem? (i := 46) rfl)) (wl_in_0 _ (List.mem_of_getElem? (i := 8) rfl)) (wl_in_4 _ (List.mem_of_getElem? (i := 41) rfl))) rfl rfl rfl (by decide +kernel) ⟨Nat.le_of_ble_eq_true rfl, Nat.le_of_ble_eq_true rfl⟩) hK hDD hA0 hP hS 0 12 wm0 rfl rfl hl.1 (Nat.le_of_ble_eq_true rfl) dX12_notes_50 (fun z30 A31 H locs hw32 hP hS => ?_)
              obtain ⟨rfl, hw32⟩ := hw32
              refine tp_i (y := iI (4 * (A 0 12) + z10)) (congrArg iI (show z30 = 4 * (A 0 12) + z10 by omega)) ?_
              clear hw32 z30
              have a_A3_14 : A3 14 = A 14 := (hj2.1 14 (by decide) rfl)
              have a_A12_14 : A12 14 = A 14 := (hj11.1 14 (by decide) rfl).trans a_A3_14
              refine x_iald hx hb hK hP 14 1 wm14 rfl (by omega) (by decide) dX12_notes_53 (fun z33 hz33 => ?_)
              have rz33 : (0 : Int) ≤ z33 ∧ z33 ≤ 6 := by rw [hz33]; exact hI 14 _
              have hz33 : z33 = A 14 (4 * (A 0 12) + z10).toNat := hz33.trans (congrFun a_A12_14 _)
              refine x_iast hx hb hK hP hDD hS 45 1 wm45 rfl (by omega) (by decide) dX12_notes_54 ws45 (fun H locs hP hS => ?_)
              have hI := hI.st (j := 45) (i := (z10).toNat) (v := z33) (show (0 : Int) ≤ z33 ∧ z33 ≤ 6 from (by omega))
              refine lv_iinc (v := iI (z10 + 1)) (lv' := [(1, .int (iI (z10 + 1))), (0, .ref (q 0))]) hx hb dX12_notes_55 hl (k := 0) rfl (i_inc (by omega)) (by decide) rfl (fun ls hl => ?_)
              refine lv_goto (tgt := 34) hx hb dX12_notes_58 (by decide) ?_
              obtain ⟨A34, hA34⟩ : ∃ A34 : St, A34 = (stA A12 45 (z10).toNat z33) := ⟨_, rfl⟩
              rw [← hA34] at hP hI
              exact ih14 _ (by omega) (z10 + 1) _ _ _ _ (by omega) (by omega) rfl hI (fr_def hA34 (fr.st (fr.trans (fr.rf) hj11 rfl rfl) (by decide) rfl)) hP hS (lv_sub hl [0, 1] rfl)
        exact L34_13 _ 0 _ _ _ _ (by omega) (by omega) rfl hI (fr.rf) hP hS (lv_sub hl [0, 1] rfl)
      · have c9 : ¬ 3 ≤ z1 := mt (i_le ⟨by decide, by decide⟩ (rb f8 (by decide) (by decide))).mpr c9
        refine lv_aload_n hx hb dX12_notes_7 rfl (lv_at hl 1 rfl) ?_
        refine va_get (D := (dC, dI)) (ci := 12) (v := .ref (q 44)) (C := RX12) (T := TX12) (N := 85) hx hb hts hiX12 hown hK hP 0 wm0 rfl 61 (by decide) (hts _ (List.mem_cons_of_mem _ (wl_in_6 _ (List.mem_of_getElem? (i := 18) rfl)))) (fun _ h9 => h9) rfl dX12_notes_8 ?_
        refine lv_iload_n hx hb dX12_notes_11 rfl (lv_at hl 0 rfl) ?_
        refine lv_aload_n hx hb dX12_notes_12 rfl (lv_at hl 1 rfl) ?_
        refine va_get (D := (dC, dI)) (ci := 12) (v := .ref (q 18)) (C := RX12) (T := TX12) (N := 85) hx hb hts hiX12 hown hK hP 0 wm0 rfl 29 (by decide) (hts _ (List.mem_cons_of_mem _ (wl_in_3 _ (List.mem_of_getElem? (i := 4) rfl)))) (fun _ h9 => h9) rfl dX12_notes_13 ?_
        refine lv_iconst (v := iI 3) hx hb dX12_notes_16 (by decide +kernel) ?_
        refine lv_aload_n hx hb dX12_notes_17 rfl (lv_at hl 1 rfl) ?_
        have e_A3_12 : A3 0 12 = (A 0 12) := (hj2.2 12 rfl)
        refine va_get (D := (dC, dI)) (ci := 12) (v := .int (iI (A3 0 12))) (C := RX12) (T := TX12) (N := 85) hx hb hts hiX12 hown hK hP 0 wm0 rfl 12 (by decide) (hts _ (List.mem_cons_of_mem _ (wl_in_4 _ (List.mem_of_getElem? (i := 14) rfl)))) (fun _ h9 => h9) rfl dX12_notes_18 ?_
        refine tp_i (y := iI (A 0 12)) (congrArg iI e_A3_12) ?_
        have r_A_0_12 : (0 : Int) ≤ (A 0 12) ∧ (A 0 12) ≤ 1 := by rw [← e_A3_12]; exact hI 0 12
        refine x_mulv (v := 3 * (A 0 12)) hx hb dX12_notes_21 (by omega) ?_
        refine lv_iload_n hx hb dX12_notes_22 rfl (lv_at hl 0 rfl) ?_
        refine x_addv (v := 3 * (A 0 12) + z1) hx hb dX12_notes_23 (by omega) ?_
        have a_A3_18 : A3 18 = A 18 := (hj2.1 18 (by decide) rfl)
        refine x_iald hx hb hK hP 18 1 wm18 rfl (by omega) (by decide) dX12_notes_24 (fun z35 hz35 => ?_)
        have rz35 : (0 : Int) ≤ z35 ∧ z35 ≤ 7 := by rw [hz35]; exact hI 18 _
        have hz35 : z35 = A 18 (3 * (A 0 12) + z1).toNat := hz35.trans (congrFun a_A3_18 _)
        refine x_iast hx hb hK hP hDD hS 44 1 wm44 rfl (by omega) (by decide) dX12_notes_25 ws44 (fun H locs hP hS => ?_)
        have hI := hI.st (j := 44) (i := (z1).toNat) (v := z35) (show (0 : Int) ≤ z35 ∧ z35 ≤ 7 from (by omega))
        refine lv_iinc (v := iI (z1 + 1)) (lv' := [(1, .int (iI (z1 + 1))), (0, .ref (q 0))]) hx hb dX12_notes_26 hl (k := 0) rfl (i_inc (by omega)) (by decide) rfl (fun ls hl => ?_)
        refine lv_goto (tgt := 2) hx hb dX12_notes_29 (by decide) ?_
        obtain ⟨A36, hA36⟩ : ∃ A36 : St, A36 = (stA A3 44 (z1).toNat z35) := ⟨_, rfl⟩
        rw [← hA36] at hP hI
        exact ih5 _ (by omega) (z1 + 1) _ _ _ _ (by omega) (by omega) rfl hI (fr_def hA36 (fr.st (fr.trans (fr.rf) hj2 rfl rfl) (by decide) rfl)) hP hS (lv_sub hl [0, 1] rfl)
  exact L2_4 _ 0 _ _ _ _ (by omega) (by omega) rfl hI (fr.rf) hP hS (lv_sub hl [0, 1] rfl)

def ws_mc_X12_back : List Cond := .code yX12_back cX12_back 2 none :: WX
set_option maxHeartbeats 4000000 in
set_option maxRecDepth 100000 in
theorem mc_X12_back (l : Launch) (dC : Nat → ClassId) (dI : Nat → Nat → Nat) (cB cI cJ cZ cQ : ClassId) (q : Nat → Nat) (A : St) (hI : IM A) : XMv l yX12_back ws_mc_X12_back ({ frames := 1, cells := 0, slots := 0, locals := 21 } : Room) (dC, dI) (tyA cB cI cJ cZ cQ) (WM cI cJ cZ q) A [.ref (q 0)] (fun u => IM u ∧ fr [14, 15, 18] [] A u ∧ (True)) := by
  refine x_metv (cc := cX12_back) (maxL := 2) WM_adr (by decide +kernel) rfl (Nat.le_of_ble_eq_true rfl) (fun p e s m below meth c Q AS ls hx hb hml hown hts hK hDD hA0 hP hS hl RET => ?_)
  have hown : s.vm.findClass RX12 = some m.cls := hown
  have hl : lv_has ls 2 [(0, .ref (q 0))] := hl
  have hiX12 : ∀ w ∈ u_ws RX12 TX12 85, w ∈ ws_mc_X12_back := fun w h => List.mem_cons_of_mem _ (wx_lay w h)
  obtain ⟨H, hHe⟩ : ∃ H : Heap, H = s.heap := ⟨_, rfl⟩
  rw [← hHe] at hP
  have hS : va_S AS s.heap H [] := by rw [hHe]; exact hS
  suffices hgo : ∀ locs : List Loc, va_S AS s.heap H locs → W p l e (headSpec ws_mc_X12_back ({ frames := 1, cells := 0, slots := 0, locals := 21 } : Room)).room s m [.ref (q 0)].toArray below meth c H locs 0 0 Q (F0 m 0 ls []) by
    have := hgo [] hS
    rw [hHe] at this
    exact this
  clear hS hHe
  intro locs hS
  refine lv_iconst (v := iI 0) hx hb dX12_back_0 (by decide +kernel) ?_
  refine lv_istore_n (lv' := [(1, .int (iI 0)), (0, .ref (q 0))]) hx hb dX12_back_1 rfl hl (by decide) rfl (fun ls hl => ?_)
  have L2_4 : ∀ (n6 : Nat) (z1 : Int) (A3 : St) (H : Heap) (locs : List Loc) (ls : Array Slot), (0 ≤ z1) → (0 ≤ z1 ∧ z1 ≤ 2147483647) → ((3 - z1 + 1).toNat = n6) → IM A3 → fr [18] [] A A3 → va_P (dC, dI) vwCl (WM cI cJ cZ q A3) H → va_S AS s.heap H locs → lv_has ls 2 [(1, .int (iI z1)), (0, .ref (q 0))] → W p l e (headSpec ws_mc_X12_back ({ frames := 1, cells := 0, slots := 0, locals := 21 } : Room)).room s m [.ref (q 0)].toArray below meth c H locs 0 0 Q (F0 m 2 ls []) := by
    intro n6
    induction n6 using Nat.strongRecOn with
    | ind n6 ih5 =>
      intro z1 A3 H locs ls f7 f8 hn6 hI hj2 hP hS hl
      refine lv_iload_n hx hb dX12_back_2 rfl (lv_at hl 0 rfl) ?_
      refine lv_iconst (v := iI 3) hx hb dX12_back_3 (by decide +kernel) ?_
      refine lv_icmp_ge (tgt := 32) hx hb dX12_back_4 (by decide) (fun c9 => ?_) (fun c9 => ?_)
      · have c9 : 3 ≤ z1 := (i_le ⟨by decide, by decide⟩ (rb f8 (by decide) (by decide))).mp c9
        refine lv_iconst (v := iI 0) hx hb dX12_back_32 (by decide +kernel) ?_
        refine lv_istore_n (lv' := [(1, .int (iI 0)), (0, .ref (q 0))]) hx hb dX12_back_33 rfl hl (by decide) rfl (fun ls hl => ?_)
        have L34_13 : ∀ (n15 : Nat) (z10 : Int) (A12 : St) (H : Heap) (locs : List Loc) (ls : Array Slot), (0 ≤ z10) → (0 ≤ z10 ∧ z10 ≤ 2147483647) → ((4 - z10 + 1).toNat = n15) → IM A12 → fr [14] [] A3 A12 → va_P (dC, dI) vwCl (WM cI cJ cZ q A12) H → va_S AS s.heap H locs → lv_has ls 2 [(1, .int (iI z10)), (0, .ref (q 0))] → W p l e (headSpec ws_mc_X12_back ({ frames := 1, cells := 0, slots := 0, locals := 21 } : Room)).room s m [.ref (q 0)].toArray below meth c H locs 0 0 Q (F0 m 34 ls []) := by
          intro n15
          induction n15 using Nat.strongRecOn with
          | ind n15 ih14 =>
            intro z10 A12 H locs ls f16 f17 hn15 hI hj11 hP hS hl
            refine lv_iload_n hx hb dX12_back_34 rfl (lv_at hl 0 rfl) ?_
            refine lv_iconst (v := iI 4) hx hb dX12_back_35 (by decide +kernel) ?_
            refine lv_icmp_ge (tgt := 61) hx hb dX12_back_36 (by decide) (fun c18 => ?_) (fun c18 => ?_)
            · have c18 : 4 ≤ z10 := (i_le ⟨by decide, by decide⟩ (rb f17 (by decide) (by decide))).mp c18
              refine lv_iconst (v := iI 0) hx hb dX12_back_61 (by decide +kernel) ?_
              refine lv_istore_n (lv' := [(1, .int (iI 0)), (0, .ref (q 0))]) hx hb dX12_back_62 rfl hl (by decide) rfl (fun ls hl => ?_)
              have L63_22 : ∀ (n24 : Nat) (z19 : Int) (A21 : St) (H : Heap) (locs : List Loc) (ls : Array Slot), (0 ≤ z19) → (0 ≤ z19 ∧ z19 ≤ 2147483647) → ((40 - z19 + 1).toNat = n24) → IM A21 → fr [15] [] A12 A21 → va_P (dC, dI) vwCl (WM cI cJ cZ q A21) H → va_S AS s.heap H locs → lv_has ls 2 [(1, .int (iI z19)), (0, .ref (q 0))] → W p l e (headSpec ws_mc_X12_back ({ frames := 1, cells := 0, slots := 0, locals := 21 } : Room)).room s m [.ref (q 0)].toArray below meth c H locs 0 0 Q (F0 m 63 ls []) := by
                intro n24
                induction n24 using Nat.strongRecOn with
                | ind n24 ih23 =>
                  intro z19 A21 H locs ls f25 f26 hn24 hI hj20 hP hS hl
                  refine lv_iload_n hx hb dX12_back_63 rfl (lv_at hl 0 rfl) ?_
                  refine lv_bipush (v := iI 40) hx hb dX12_back_64 (by decide +kernel) ?_
                  refine lv_icmp_ge (tgt := 95) hx hb dX12_back_66 (by decide) (fun c27 => ?_) (fun c27 => ?_)
                  · have c27 : 40 ≤ z19 := (i_le ⟨by decide, by decide⟩ (rb f26 (by decide) (by decide))).mp c27
                    exact RET _ _ _ _ _ ⟨hI, fr.trans (fr.trans (fr.trans (fr.rf) hj2 rfl rfl) hj11 rfl rfl) hj20 rfl rfl, trivial⟩ hP hS dX12_back_95
                  · have c27 : ¬ 40 ≤ z19 := mt (i_le ⟨by decide, by decide⟩ (rb f26 (by decide) (by decide))).mpr c27
                    refine lv_aload_n hx hb dX12_back_69 rfl (lv_at hl 1 rfl) ?_
                    refine va_get (D := (dC, dI)) (ci := 12) (v := .ref (q 15)) (C := RX12) (T := TX12) (N := 85) hx hb hts hiX12 hown hK hP 0 wm0 rfl 26 (by decide) (hts _ (List.mem_cons_of_mem _ (wl_in_3 _ (List.mem_of_getElem? (i := 7) rfl)))) (fun _ h9 => h9) rfl dX12_back_70 ?_
                    refine lv_bipush (v := iI 40) hx hb dX12_back_73 (by decide +kernel) ?_
                    refine lv_aload_n hx hb dX12_back_75 rfl (lv_at hl 1 rfl) ?_
                    have e_A3_12 : A3 0 12 = (A 0 12) := (hj2.2 12 rfl)
                    have e_A12_12 : A12 0 12 = (A 0 12) := (hj11.2 12 rfl).trans e_A3_12
                    have e_A21_12 : A21 0 12 = (A 0 12) := (hj20.2 12 rfl).trans e_A12_12
                    refine va_get (D := (dC, dI)) (ci := 12) (v := .int (iI (A21 0 12))) (C := RX12) (T := TX12) (N := 85) hx hb hts hiX12 hown hK hP 0 wm0 rfl 12 (by decide) (hts _ (List.mem_cons_of_mem _ (wl_in_4 _ (List.mem_of_getElem? (i := 14) rfl)))) (fun _ h9 => h9) rfl dX12_back_76 ?_
                    refine tp_i (y := iI (A 0 12)) (congrArg iI e_A21_12) ?_
                    have r_A_0_12 : (0 : Int) ≤ (A 0 12) ∧ (A 0 12) ≤ 1 := by rw [← e_A21_12]; exact hI 0 12
                    refine x_mulv (v := 40 * (A 0 12)) hx hb dX12_back_79 (by omega) ?_
                    refine lv_iload_n hx hb dX12_back_80 rfl (lv_at hl 0 rfl) ?_
                    refine x_addv (v := 40 * (A 0 12) + z19) hx hb dX12_back_81 (by omega) ?_
                    refine lv_aload_n hx hb dX12_back_82 rfl (lv_at hl 1 rfl) ?_
                    refine va_get (D := (dC, dI)) (ci := 12) (v := .ref (q 46)) (C := RX12) (T := TX12) (N := 85) hx hb hts hiX12 hown hK hP 0 wm0 rfl 63 (by decide) (hts _ (List.mem_cons_of_mem _ (wl_in_6 _ (List.mem_of_getElem? (i := 20) rfl)))) (fun _ h9 => h9) rfl dX12_back_83 ?_
                    refine lv_iload_n hx hb dX12_back_86 rfl (lv_at hl 0 rfl) ?_
                    have a_A3_46 : A3 46 = A 46 := (hj2.1 46 (by decide) rfl)
                    have a_A12_46 : A12 46 = A 46 := (hj11.1 46 (by decide) rfl).trans a_A3_46
                    have a_A21_46 : A21 46 = A 46 := (hj20.1 46 (by decide) rfl).trans a_A12_46
                    refine x_iald hx hb hK hP 46 1 wm46 rfl (by omega) (by decide) dX12_back_87 (fun z28 hz28 => ?_)
                    have rz28 : (0 : Int) ≤ z28 ∧ z28 ≤ 9 := by rw [hz28]; exact hI 46 _
                    have hz28 : z28 = A 46 (z19).toNat := hz28.trans (congrFun a_A21_46 _)
                    refine x_iast hx hb hK hP hDD hS 15 1 wm15 rfl (by omega) (by decide) dX12_back_88 ws15 (fun H locs hP hS => ?_)
                    have hI := hI.st (j := 15) (i := (40 * (A 0 12) + z19).toNat) (v := z28) (show (0 : Int) ≤ z28 ∧ z28 ≤ 9 from (by omega))
                    refine lv_iinc (v := iI (z19 + 1)) (lv' := [(1, .int (iI (z19 + 1))), (0, .ref (q 0))]) hx hb dX12_back_89 hl (k := 0) rfl (i_inc (by omega)) (by decide) rfl (fun ls hl => ?_)
                    refine lv_goto (tgt := 63) hx hb dX12_back_92 (by decide) ?_
                    obtain ⟨A29, hA29⟩ : ∃ A29 : St, A29 = (stA A21 15 (40 * (A 0 12) + z19).toNat z28) := ⟨_, rfl⟩
                    rw [← hA29] at hP hI
                    exact ih23 _ (by omega) (z19 + 1) _ _ _ _ (by omega) (by omega) rfl hI (fr_def hA29 (fr.st (fr.trans (fr.rf) hj20 rfl rfl) (by decide) rfl)) hP hS (lv_sub hl [0, 1] rfl)
              exact L63_22 _ 0 _ _ _ _ (by omega) (by omega) rfl hI (fr.rf) hP hS (lv_sub hl [0, 1] rfl)
            · have c18 : ¬ 4 ≤ z10 := mt (i_le ⟨by decide, by decide⟩ (rb f17 (by decide) (by decide))).mpr c18
              refine lv_aload_n hx hb dX12_back_39 rfl (lv_at hl 1 rfl) ?_
              refine va_get (D := (dC, dI)) (ci := 12) (v := .ref (q 14)) (C := RX12) (T := TX12) (N := 85) hx hb hts hiX12 hown hK hP 0 wm0 rfl 25 (by decide) (hts _ (List.mem_cons_of_mem _ (wl_in_2 _ (List.mem_of_getElem? (i := 59) rfl)))) (fun _ h9 => h9) rfl dX12_back_40 ?_
              refine lv_aload_n hx hb dX12_back_43 rfl (lv_at hl 1 rfl) ?_
              refine lv_iload_n hx hb dX12_back_44 rfl (lv_at hl 0 rfl) ?_
              have e_A3_12 : A3 0 12 = (A 0 12) := (hj2.2 12 rfl)
              have e_A12_12 : A12 0 12 = (A 0 12) := (hj11.2 12 rfl).trans e_A3_12
              have r_A_0_12 : (0 : Int) ≤ (A 0 12) ∧ (A 0 12) ≤ 1 := by rw [← e_A12_12]; exact hI 0 12
              refine x_calli (As := [.int (iI z10)]) (rest := [.ref (q 14)]) ⟨hx, hb, hml, hown, hts⟩ (mc_X12_key4 l dC dI cB cI cJ cZ cQ q _ z10 hI (by omega)) (cwV 1 hts (goodV (wl_in_4 _ (List.mem_of_getElem? (i := 44) rfl)) (wl_in_4 _ (List.mem_of_getElem? (i := 45) rfl)) (wl_in_4 _ (List.mem_of_getElem? (i := 46) rfl)) (wl_in_0 _ (List.mem_of_getElem? (i := 8) rfl)) (wl_in_4 _ (List.mem_of_getElem? (i := 41) rfl))) rfl rfl rfl (by decide +kernel) ⟨Nat.le_of_ble_eq_true rfl, Nat.le_of_ble_eq_true rfl⟩) hK hDD hA0 hP hS 0 12 wm0 rfl rfl hl.1 (Nat.le_of_ble_eq_true rfl) dX12_back_45 (fun z30 A31 H locs hw32 hP hS => ?_)
              obtain ⟨rfl, hw32⟩ := hw32
              refine tp_i (y := iI (4 * (A 0 12) + z10)) (congrArg iI (show z30 = 4 * (A 0 12) + z10 by omega)) ?_
              clear hw32 z30
              refine lv_aload_n hx hb dX12_back_48 rfl (lv_at hl 1 rfl) ?_
              refine va_get (D := (dC, dI)) (ci := 12) (v := .ref (q 45)) (C := RX12) (T := TX12) (N := 85) hx hb hts hiX12 hown hK hP 0 wm0 rfl 62 (by decide) (hts _ (List.mem_cons_of_mem _ (wl_in_6 _ (List.mem_of_getElem? (i := 19) rfl)))) (fun _ h9 => h9) rfl dX12_back_49 ?_
              refine lv_iload_n hx hb dX12_back_52 rfl (lv_at hl 0 rfl) ?_
              have a_A3_45 : A3 45 = A 45 := (hj2.1 45 (by decide) rfl)
              have a_A12_45 : A12 45 = A 45 := (hj11.1 45 (by decide) rfl).trans a_A3_45
              refine x_iald hx hb hK hP 45 1 wm45 rfl (by omega) (by decide) dX12_back_53 (fun z33 hz33 => ?_)
              have rz33 : (0 : Int) ≤ z33 ∧ z33 ≤ 6 := by rw [hz33]; exact hI 45 _
              have hz33 : z33 = A 45 (z10).toNat := hz33.trans (congrFun a_A12_45 _)
              refine x_iast hx hb hK hP hDD hS 14 1 wm14 rfl (by omega) (by decide) dX12_back_54 ws14 (fun H locs hP hS => ?_)
              have hI := hI.st (j := 14) (i := (4 * (A 0 12) + z10).toNat) (v := z33) (show (0 : Int) ≤ z33 ∧ z33 ≤ 6 from (by omega))
              refine lv_iinc (v := iI (z10 + 1)) (lv' := [(1, .int (iI (z10 + 1))), (0, .ref (q 0))]) hx hb dX12_back_55 hl (k := 0) rfl (i_inc (by omega)) (by decide) rfl (fun ls hl => ?_)
              refine lv_goto (tgt := 34) hx hb dX12_back_58 (by decide) ?_
              obtain ⟨A34, hA34⟩ : ∃ A34 : St, A34 = (stA A12 14 (4 * (A 0 12) + z10).toNat z33) := ⟨_, rfl⟩
              rw [← hA34] at hP hI
              exact ih14 _ (by omega) (z10 + 1) _ _ _ _ (by omega) (by omega) rfl hI (fr_def hA34 (fr.st (fr.trans (fr.rf) hj11 rfl rfl) (by decide) rfl)) hP hS (lv_sub hl [0, 1] rfl)
        exact L34_13 _ 0 _ _ _ _ (by omega) (by omega) rfl hI (fr.rf) hP hS (lv_sub hl [0, 1] rfl)
      · have c9 : ¬ 3 ≤ z1 := mt (i_le ⟨by decide, by decide⟩ (rb f8 (by decide) (by decide))).mpr c9
        refine lv_aload_n hx hb dX12_back_7 rfl (lv_at hl 1 rfl) ?_
        refine va_get (D := (dC, dI)) (ci := 12) (v := .ref (q 18)) (C := RX12) (T := TX12) (N := 85) hx hb hts hiX12 hown hK hP 0 wm0 rfl 29 (by decide) (hts _ (List.mem_cons_of_mem _ (wl_in_3 _ (List.mem_of_getElem? (i := 4) rfl)))) (fun _ h9 => h9) rfl dX12_back_8 ?_
        refine lv_iconst (v := iI 3) hx hb dX12_back_11 (by decide +kernel) ?_
        refine lv_aload_n hx hb dX12_back_12 rfl (lv_at hl 1 rfl) ?_
        have e_A3_12 : A3 0 12 = (A 0 12) := (hj2.2 12 rfl)
        refine va_get (D := (dC, dI)) (ci := 12) (v := .int (iI (A3 0 12))) (C := RX12) (T := TX12) (N := 85) hx hb hts hiX12 hown hK hP 0 wm0 rfl 12 (by decide) (hts _ (List.mem_cons_of_mem _ (wl_in_4 _ (List.mem_of_getElem? (i := 14) rfl)))) (fun _ h9 => h9) rfl dX12_back_13 ?_
        refine tp_i (y := iI (A 0 12)) (congrArg iI e_A3_12) ?_
        have r_A_0_12 : (0 : Int) ≤ (A 0 12) ∧ (A 0 12) ≤ 1 := by rw [← e_A3_12]; exact hI 0 12
        refine x_mulv (v := 3 * (A 0 12)) hx hb dX12_back_16 (by omega) ?_
        refine lv_iload_n hx hb dX12_back_17 rfl (lv_at hl 0 rfl) ?_
        refine x_addv (v := 3 * (A 0 12) + z1) hx hb dX12_back_18 (by omega) ?_
        refine lv_aload_n hx hb dX12_back_19 rfl (lv_at hl 1 rfl) ?_
        refine va_get (D := (dC, dI)) (ci := 12) (v := .ref (q 44)) (C := RX12) (T := TX12) (N := 85) hx hb hts hiX12 hown hK hP 0 wm0 rfl 61 (by decide) (hts _ (List.mem_cons_of_mem _ (wl_in_6 _ (List.mem_of_getElem? (i := 18) rfl)))) (fun _ h9 => h9) rfl dX12_back_20 ?_
        refine lv_iload_n hx hb dX12_back_23 rfl (lv_at hl 0 rfl) ?_
        have a_A3_44 : A3 44 = A 44 := (hj2.1 44 (by decide) rfl)
        refine x_iald hx hb hK hP 44 1 wm44 rfl (by omega) (by decide) dX12_back_24 (fun z35 hz35 => ?_)
        have rz35 : (0 : Int) ≤ z35 ∧ z35 ≤ 7 := by rw [hz35]; exact hI 44 _
        have hz35 : z35 = A 44 (z1).toNat := hz35.trans (congrFun a_A3_44 _)
        refine x_iast hx hb hK hP hDD hS 18 1 wm18 rfl (by omega) (by decide) dX12_back_25 ws18 (fun H locs hP hS => ?_)
        have hI := hI.st (j := 18) (i := (3 * (A 0 12) + z1).toNat) (v := z35) (show (0 : Int) ≤ z35 ∧ z35 ≤ 7 from (by omega))
        refine lv_iinc (v := iI (z1 + 1)) (lv' := [(1, .int (iI (z1 + 1))), (0, .ref (q 0))]) hx hb dX12_back_26 hl (k := 0) rfl (i_inc (by omega)) (by decide) rfl (fun ls hl => ?_)
        refine lv_goto (tgt := 2) hx hb dX12_back_29 (by decide) ?_
        obtain ⟨A36, hA36⟩ : ∃ A36 : St, A36 = (stA A3 18 (3 * (A 0 12) + z1).toNat z35) := ⟨_, rfl⟩
        rw [← hA36] at hP hI
        exact ih5 _ (by omega) (z1 + 1) _ _ _ _ (by omega) (by omega) rfl hI (fr_def hA36 (fr.st (fr.trans (fr.rf) hj2 rfl rfl) (by decide) rfl)) hP hS (lv_sub hl [0, 1] rfl)
  exact L2_4 _ 0 _ _ _ _ (by omega) (by omega) rfl hI (fr.rf) hP hS (lv_sub hl [0, 1] rfl)

def ws_mc_X12_firstKey : List Cond := .code yX12_firstKey cX12_firstKey 4 (some .int) :: WX
set_option maxHeartbeats 4000000 in
set_option maxRecDepth 100000 in
theorem mc_X12_firstKey (l : Launch) (dC : Nat → ClassId) (dI : Nat → Nat → Nat) (cB cI cJ cZ cQ : ClassId) (q : Nat → Nat) (A : St) (x1 x2 : Int) (hI : IM A) (hx1 : (0 : Int) ≤ x1 ∧ x1 ≤ 2) (hx2 : (0 : Int) ≤ x2 ∧ x2 ≤ 9) : XMi l yX12_firstKey ws_mc_X12_firstKey ({ frames := 2, cells := 0, slots := 0, locals := 45 } : Room) (dC, dI) (tyA cB cI cJ cZ cQ) (WM cI cJ cZ q) A [.ref (q 0), .int (iI x1), .int (iI x2)] (fun z u => A = u ∧ (-1 ≤ z ∧ z ≤ 3)) := by
  refine x_meti (cc := cX12_firstKey) (maxL := 4) WM_adr (by decide +kernel) rfl (Nat.le_of_ble_eq_true rfl) (fun p e s m below meth c Q AS ls hx hb hml hown hts hK hDD hA0 hP hS hl RET => ?_)
  have hown : s.vm.findClass RX12 = some m.cls := hown
  have hl : lv_has ls 4 [(0, .ref (q 0)), (1, .int (iI x1)), (2, .int (iI x2))] := hl
  have hiX12 : ∀ w ∈ u_ws RX12 TX12 85, w ∈ ws_mc_X12_firstKey := fun w h => List.mem_cons_of_mem _ (wx_lay w h)
  obtain ⟨H, hHe⟩ : ∃ H : Heap, H = s.heap := ⟨_, rfl⟩
  rw [← hHe] at hP
  have hS : va_S AS s.heap H [] := by rw [hHe]; exact hS
  suffices hgo : ∀ locs : List Loc, va_S AS s.heap H locs → W p l e (headSpec ws_mc_X12_firstKey ({ frames := 2, cells := 0, slots := 0, locals := 45 } : Room)).room s m [.ref (q 0), .int (iI x1), .int (iI x2)].toArray below meth c H locs 0 0 Q (F0 m 0 ls []) by
    have := hgo [] hS
    rw [hHe] at this
    exact this
  clear hS hHe
  intro locs hS
  refine lv_iconst (v := iI 0) hx hb dX12_firstKey_0 (by decide +kernel) ?_
  refine lv_istore_n (lv' := [(3, .int (iI 0)), (0, .ref (q 0)), (1, .int (iI x1)), (2, .int (iI x2))]) hx hb dX12_firstKey_1 rfl hl (by decide) rfl (fun ls hl => ?_)
  have L2_4 : ∀ (n6 : Nat) (z1 : Int) (H : Heap) (locs : List Loc) (ls : Array Slot), (0 ≤ z1) → (0 ≤ z1 ∧ z1 ≤ 2147483647) → ((A 11 ((A 0 12)).toNat - z1 + 1).toNat = n6) → va_P (dC, dI) vwCl (WM cI cJ cZ q A) H → va_S AS s.heap H locs → lv_has ls 4 [(3, .int (iI z1)), (0, .ref (q 0)), (1, .int (iI x1)), (2, .int (iI x2))] → W p l e (headSpec ws_mc_X12_firstKey ({ frames := 2, cells := 0, slots := 0, locals := 45 } : Room)).room s m [.ref (q 0), .int (iI x1), .int (iI x2)].toArray below meth c H locs 0 0 Q (F0 m 2 ls []) := by
    intro n6
    induction n6 using Nat.strongRecOn with
    | ind n6 ih5 =>
      intro z1 H locs ls f7 f8 hn6 hP hS hl
      refine lv_iload_n hx hb dX12_firstKey_2 rfl (lv_at hl 0 rfl) ?_
      refine lv_aload_n hx hb dX12_firstKey_3 rfl (lv_at hl 1 rfl) ?_
      refine va_get (D := (dC, dI)) (ci := 12) (v := .ref (q 11)) (C := RX12) (T := TX12) (N := 85) hx hb hts hiX12 hown hK hP 0 wm0 rfl 22 (by decide) (hts _ (List.mem_cons_of_mem _ (wl_in_1 _ (List.mem_of_getElem? (i := 14) rfl)))) (fun _ h9 => h9) rfl dX12_firstKey_4 ?_
      refine lv_aload_n hx hb dX12_firstKey_7 rfl (lv_at hl 1 rfl) ?_
      refine va_get (D := (dC, dI)) (ci := 12) (v := .int (iI (A 0 12))) (C := RX12) (T := TX12) (N := 85) hx hb hts hiX12 hown hK hP 0 wm0 rfl 12 (by decide) (hts _ (List.mem_cons_of_mem _ (wl_in_4 _ (List.mem_of_getElem? (i := 14) rfl)))) (fun _ h9 => h9) rfl dX12_firstKey_8 ?_
      have r_A_0_12 : (0 : Int) ≤ (A 0 12) ∧ (A 0 12) ≤ 1 := hI 0 12
      refine x_iald hx hb hK hP 11 1 wm11 rfl (by omega) (by decide) dX12_firstKey_11 (fun z9 hz9 => ?_)
      have rz9 : (0 : Int) ≤ z9 ∧ z9 ≤ 4 := by rw [hz9]; exact hI 11 _
      have hz9 : z9 = A 11 ((A 0 12)).toNat := hz9
      refine lv_icmp_ge (tgt := 46) hx hb dX12_firstKey_12 (by decide) (fun c10 => ?_) (fun c10 => ?_)
      · have c10 : z9 ≤ z1 := (i_le (rb rz9 (by decide) (by decide)) (rb f8 (by decide) (by decide))).mp c10
        refine lv_iconst (v := iI (-1)) hx hb dX12_firstKey_46 (by decide +kernel) ?_
        exact RET (-1) _ _ _ _ _ ⟨rfl, by omega⟩ hP hS dX12_firstKey_47
      · have c10 : ¬ z9 ≤ z1 := mt (i_le (rb rz9 (by decide) (by decide)) (rb f8 (by decide) (by decide))).mpr c10
        refine lv_aload_n hx hb dX12_firstKey_15 rfl (lv_at hl 1 rfl) ?_
        refine va_get (D := (dC, dI)) (ci := 12) (v := .ref (q 13)) (C := RX12) (T := TX12) (N := 85) hx hb hts hiX12 hown hK hP 0 wm0 rfl 24 (by decide) (hts _ (List.mem_cons_of_mem _ (wl_in_2 _ (List.mem_of_getElem? (i := 58) rfl)))) (fun _ h9 => h9) rfl dX12_firstKey_16 ?_
        refine lv_aload_n hx hb dX12_firstKey_19 rfl (lv_at hl 1 rfl) ?_
        refine lv_iload_n hx hb dX12_firstKey_20 rfl (lv_at hl 0 rfl) ?_
        refine x_calli (As := [.int (iI z1)]) (rest := [.ref (q 13)]) ⟨hx, hb, hml, hown, hts⟩ (mc_X12_key4 l dC dI cB cI cJ cZ cQ q _ z1 hI (by omega)) (cwV 1 hts (goodV (wl_in_4 _ (List.mem_of_getElem? (i := 44) rfl)) (wl_in_4 _ (List.mem_of_getElem? (i := 45) rfl)) (wl_in_4 _ (List.mem_of_getElem? (i := 46) rfl)) (wl_in_0 _ (List.mem_of_getElem? (i := 8) rfl)) (wl_in_4 _ (List.mem_of_getElem? (i := 41) rfl))) rfl rfl rfl (by decide +kernel) ⟨Nat.le_of_ble_eq_true rfl, Nat.le_of_ble_eq_true rfl⟩) hK hDD hA0 hP hS 0 12 wm0 rfl rfl hl.1 (Nat.le_of_ble_eq_true rfl) dX12_firstKey_21 (fun z11 A12 H locs hw13 hP hS => ?_)
        obtain ⟨rfl, hw13⟩ := hw13
        refine tp_i (y := iI (4 * (A 0 12) + z1)) (congrArg iI (show z11 = 4 * (A 0 12) + z1 by omega)) ?_
        clear hw13 z11
        refine x_iald hx hb hK hP 13 1 wm13 rfl (by omega) (by decide) dX12_firstKey_24 (fun z14 hz14 => ?_)
        have rz14 : (0 : Int) ≤ z14 ∧ z14 ≤ 40 := by rw [hz14]; exact hI 13 _
        have hz14 : z14 = A 13 (4 * (A 0 12) + z1).toNat := hz14
        refine lv_iload_n hx hb dX12_firstKey_25 rfl (lv_at hl 2 rfl) ?_
        have J40_16 : ∀ (H : Heap) (locs : List Loc) (ls : Array Slot), va_P (dC, dI) vwCl (WM cI cJ cZ q A) H → va_S AS s.heap H locs → lv_has ls 4 [(3, .int (iI z1)), (0, .ref (q 0)), (1, .int (iI x1)), (2, .int (iI x2))] → W p l e (headSpec ws_mc_X12_firstKey ({ frames := 2, cells := 0, slots := 0, locals := 45 } : Room)).room s m [.ref (q 0), .int (iI x1), .int (iI x2)].toArray below meth c H locs 0 0 Q (F0 m 40 ls []) := by
          intro H locs ls hP hS hl
          refine lv_iinc (v := iI (z1 + 1)) (lv' := [(3, .int (iI (z1 + 1))), (0, .ref (q 0)), (1, .int (iI x1)), (2, .int (iI x2))]) hx hb dX12_firstKey_40 hl (k := 0) rfl (i_inc (by omega)) (by decide) rfl (fun ls hl => ?_)
          refine lv_goto (tgt := 2) hx hb dX12_firstKey_43 (by decide) ?_
          exact ih5 _ (by omega) (z1 + 1) _ _ _ (by omega) (by omega) rfl hP hS (lv_sub hl [0, 1, 2, 3] rfl)
        refine lv_icmp_ne (tgt := 40) hx hb dX12_firstKey_26 (by decide) (fun c15 => ?_) (fun c15 => ?_)
        · have c15 : ¬ z14 = x1 := mt (i_eq (rb rz14 (by decide) (by decide)) (rb hx1 (by decide) (by decide))).mpr c15
          exact J40_16 _ _ _ hP hS (lv_sub hl [0, 1, 2, 3] rfl)
        · have c15 : z14 = x1 := (i_eq (rb rz14 (by decide) (by decide)) (rb hx1 (by decide) (by decide))).mp c15
          refine lv_aload_n hx hb dX12_firstKey_29 rfl (lv_at hl 1 rfl) ?_
          refine lv_iload_n hx hb dX12_firstKey_30 rfl (lv_at hl 0 rfl) ?_
          refine lv_iload_n hx hb dX12_firstKey_31 rfl (lv_at hl 3 rfl) ?_
          refine x_calli (As := [.int (iI z1), .int (iI x2)]) (rest := []) ⟨hx, hb, hml, hown, hts⟩ (mc_X12_inRow l dC dI cB cI cJ cZ cQ q _ z1 x2 hI (by omega) (rb hx2 (by decide) (by decide))) (cwV 2 hts (goodV (wl_in_4 _ (List.mem_of_getElem? (i := 52) rfl)) (wl_in_4 _ (List.mem_of_getElem? (i := 53) rfl)) (wl_in_4 _ (List.mem_of_getElem? (i := 54) rfl)) (wl_in_0 _ (List.mem_of_getElem? (i := 8) rfl)) (wl_in_4 _ (List.mem_of_getElem? (i := 43) rfl))) rfl rfl rfl (by decide +kernel) ⟨Nat.le_of_ble_eq_true rfl, Nat.le_of_ble_eq_true rfl⟩) hK hDD hA0 hP hS 0 12 wm0 rfl rfl hl.1 (Nat.le_of_ble_eq_true rfl) dX12_firstKey_32 (fun z17 A18 H locs hw19 hP hS => ?_)
          obtain ⟨rfl, hw19⟩ := hw19
          refine lv_if_ne (tgt := 40) hx hb dX12_firstKey_35 (by decide) (fun c20 => ?_) (fun c20 => ?_)
          · have c20 : ¬ z17 = 0 := mt (i_eq0 (rb hw19 (by decide) (by decide))).mpr c20
            exact J40_16 _ _ _ hP hS (lv_sub hl [0, 1, 2, 3] rfl)
          · have c20 : z17 = 0 := (i_eq0 (rb hw19 (by decide) (by decide))).mp c20
            refine lv_iload_n hx hb dX12_firstKey_38 rfl (lv_at hl 0 rfl) ?_
            exact RET z1 _ _ _ _ _ ⟨rfl, by omega⟩ hP hS dX12_firstKey_39
  exact L2_4 _ 0 _ _ _ (by omega) (by omega) rfl hP hS (lv_sub hl [0, 1, 2, 3] rfl)
