def ws_mc_X12_counts : List Cond := .code yX12_counts cX12_counts 2 (some .boolean) :: WX
set_option maxHeartbeats 4000000 in
set_option maxRecDepth 100000 in
theorem mc_X12_counts (l : Launch) (dC : Nat → ClassId) (dI : Nat → Nat → Nat) (cB cI cJ cZ cQ : ClassId) (q : Nat → Nat) (A : St) (x1 : Int) (hI : IM A) (hx1 : (0 : Int) ≤ x1 ∧ x1 ≤ 1) : XMi l yX12_counts ws_mc_X12_counts ({ frames := 2, cells := 0, slots := 0, locals := 47 } : Room) (dC, dI) (tyA cB cI cJ cZ cQ) (WM cI cJ cZ q) A [.ref (q 0), .int (iI x1)] (fun z u => IM u ∧ fr [] [3, 4, 5, 6, 7, 8, 9] A u ∧ ((0 ≤ z ∧ z ≤ 1) ∧ (z = 1 → x1 = 0 ∧ u 0 8 = 0))) := by
  refine x_metz (cc := cX12_counts) (maxL := 2) WM_adr (by decide +kernel) rfl (Nat.le_of_ble_eq_true rfl) (fun z u h => h.2.2.1) (fun p e s m below meth c Q AS ls hx hb hml hown hts hK hDD hA0 hP hS hl RET => ?_)
  have hown : s.vm.findClass RX12 = some m.cls := hown
  have hl : lv_has ls 2 [(0, .ref (q 0)), (1, .int (iI x1))] := hl
  have hiX12 : ∀ w ∈ u_ws RX12 TX12 85, w ∈ ws_mc_X12_counts := fun w h => List.mem_cons_of_mem _ (wx_lay w h)
  obtain ⟨H, hHe⟩ : ∃ H : Heap, H = s.heap := ⟨_, rfl⟩
  rw [← hHe] at hP
  have hS : va_S AS s.heap H [] := by rw [hHe]; exact hS
  suffices hgo : ∀ locs : List Loc, va_S AS s.heap H locs → W p l e (headSpec ws_mc_X12_counts ({ frames := 2, cells := 0, slots := 0, locals := 47 } : Room)).room s m [.ref (q 0), .int (iI x1)].toArray below meth c H locs 0 0 Q (F0 m 0 ls []) by
    have := hgo [] hS
    rw [hHe] at this
    exact this
  clear hS hHe
  intro locs hS
  refine lv_aload_n hx hb dX12_counts_0 rfl (lv_at hl 0 rfl) ?_
  refine va_get (D := (dC, dI)) (ci := 12) (v := .int (iI (A 0 8))) (C := RX12) (T := TX12) (N := 85) hx hb hts hiX12 hown hK hP 0 wm0 rfl 8 (by decide) (hts _ (List.mem_cons_of_mem _ (wl_in_0 _ (List.mem_of_getElem? (i := 16) rfl)))) (fun _ h9 => h9) rfl dX12_counts_1 ?_
  have r_A_0_8 : (0 : Int) ≤ (A 0 8) ∧ (A 0 8) ≤ 5 := hI 0 8
  have J20_2 : ∀ (A8 : St) (H : Heap) (locs : List Loc) (ls : Array Slot), ((A8 0 8) = 0 → x1 = 0) → IM A8 → fr [] [8, 9] A A8 → va_P (dC, dI) vwCl (WM cI cJ cZ q A8) H → va_S AS s.heap H locs → lv_has ls 2 [(0, .ref (q 0)), (1, .int (iI x1))] → W p l e (headSpec ws_mc_X12_counts ({ frames := 2, cells := 0, slots := 0, locals := 47 } : Room)).room s m [.ref (q 0), .int (iI x1)].toArray below meth c H locs 0 0 Q (F0 m 20 ls []) := by
    intro A8 H locs ls f9 hI hj7 hP hS hl
    refine lv_aload_n hx hb dX12_counts_20 rfl (lv_at hl 0 rfl) ?_
    refine va_get (D := (dC, dI)) (ci := 12) (v := .int (iI (A8 0 8))) (C := RX12) (T := TX12) (N := 85) hx hb hts hiX12 hown hK hP 0 wm0 rfl 8 (by decide) (hts _ (List.mem_cons_of_mem _ (wl_in_0 _ (List.mem_of_getElem? (i := 16) rfl)))) (fun _ h9 => h9) rfl dX12_counts_21 ?_
    have r_A8_0_8 : (0 : Int) ≤ (A8 0 8) ∧ (A8 0 8) ≤ 5 := hI 0 8
    have J31_11 : ∀ (A16 : St) (H : Heap) (locs : List Loc) (ls : Array Slot), ((A16 0 8) = 0 → x1 = 0) → IM A16 → fr [] [3, 4, 5, 6, 7, 8, 9] A8 A16 → va_P (dC, dI) vwCl (WM cI cJ cZ q A16) H → va_S AS s.heap H locs → lv_has ls 2 [(0, .ref (q 0)), (1, .int (iI x1))] → W p l e (headSpec ws_mc_X12_counts ({ frames := 2, cells := 0, slots := 0, locals := 47 } : Room)).room s m [.ref (q 0), .int (iI x1)].toArray below meth c H locs 0 0 Q (F0 m 31 ls []) := by
      intro A16 H locs ls f17 hI hj15 hP hS hl
      refine lv_aload_n hx hb dX12_counts_31 rfl (lv_at hl 0 rfl) ?_
      refine va_get (D := (dC, dI)) (ci := 12) (v := .int (iI (A16 0 8))) (C := RX12) (T := TX12) (N := 85) hx hb hts hiX12 hown hK hP 0 wm0 rfl 8 (by decide) (hts _ (List.mem_cons_of_mem _ (wl_in_0 _ (List.mem_of_getElem? (i := 16) rfl)))) (fun _ h9 => h9) rfl dX12_counts_32 ?_
      have r_A16_0_8 : (0 : Int) ≤ (A16 0 8) ∧ (A16 0 8) ≤ 5 := hI 0 8
      refine lv_if_ne (tgt := 42) hx hb dX12_counts_35 (by decide) (fun c18 => ?_) (fun c18 => ?_)
      · have c18 : ¬ (A16 0 8) = 0 := mt (i_eq0 (rb r_A16_0_8 (by decide) (by decide))).mpr c18
        refine lv_iconst (v := iI 0) hx hb dX12_counts_42 (by decide +kernel) ?_
        exact RET 0 _ _ _ _ _ ⟨hI, fr.trans (fr.trans (fr.rf) hj7 rfl rfl) hj15 rfl rfl, by omega⟩ hP hS dX12_counts_43
      · have c18 : (A16 0 8) = 0 := (i_eq0 (rb r_A16_0_8 (by decide) (by decide))).mp c18
        refine lv_iconst (v := iI 1) hx hb dX12_counts_38 (by decide +kernel) ?_
        refine lv_goto (tgt := 43) hx hb dX12_counts_39 (by decide) ?_
        exact RET 1 _ _ _ _ _ ⟨hI, fr.trans (fr.trans (fr.rf) hj7 rfl rfl) hj15 rfl rfl, by omega⟩ hP hS dX12_counts_43
    refine lv_if_ne (tgt := 31) hx hb dX12_counts_24 (by decide) (fun c10 => ?_) (fun c10 => ?_)
    · have c10 : ¬ (A8 0 8) = 0 := mt (i_eq0 (rb r_A8_0_8 (by decide) (by decide))).mpr c10
      exact J31_11 _ _ _ _ (by omega) hI (fr.rf) hP hS (lv_sub hl [0, 1] rfl)
    · have c10 : (A8 0 8) = 0 := (i_eq0 (rb r_A8_0_8 (by decide) (by decide))).mp c10
      refine lv_aload_n hx hb dX12_counts_27 rfl (lv_at hl 0 rfl) ?_
      refine x_callv (As := []) (rest := []) ⟨hx, hb, hml, hown, hts⟩ (mc_X12_ahead l dC dI cB cI cJ cZ cQ q _ hI) (cwV 0 hts (goodV (wl_in_0 _ (List.mem_of_getElem? (i := 40) rfl)) (wl_in_0 _ (List.mem_of_getElem? (i := 41) rfl)) (wl_in_0 _ (List.mem_of_getElem? (i := 42) rfl)) (wl_in_0 _ (List.mem_of_getElem? (i := 8) rfl)) (wl_in_0 _ (List.mem_of_getElem? (i := 20) rfl))) rfl rfl rfl (by decide +kernel) ⟨Nat.le_of_ble_eq_true rfl, Nat.le_of_ble_eq_true rfl⟩) hK hDD hA0 hP hS 0 12 wm0 rfl rfl hl.1 (Nat.le_of_ble_eq_true rfl) dX12_counts_28 (fun A12 H locs hw13 hP hS => ?_)
      obtain ⟨hI, hf14, hw13⟩ := hw13
      clear hw13
      have r_A12_0_8 : (0 : Int) ≤ (A12 0 8) ∧ (A12 0 8) ≤ 5 := hI 0 8
      exact J31_11 _ _ _ _ (by omega) hI (fr.trans (fr.rf) hf14 rfl rfl) hP hS (lv_sub hl [0, 1] rfl)
  refine lv_if_ne (tgt := 20) hx hb dX12_counts_4 (by decide) (fun c1 => ?_) (fun c1 => ?_)
  · have c1 : ¬ (A 0 8) = 0 := mt (i_eq0 (rb r_A_0_8 (by decide) (by decide))).mpr c1
    exact J20_2 _ _ _ _ (by omega) hI (fr.rf) hP hS (lv_sub hl [0, 1] rfl)
  · have c1 : (A 0 8) = 0 := (i_eq0 (rb r_A_0_8 (by decide) (by decide))).mp c1
    refine lv_iload_n hx hb dX12_counts_7 rfl (lv_at hl 1 rfl) ?_
    refine lv_if_eq (tgt := 20) hx hb dX12_counts_8 (by decide) (fun c3 => ?_) (fun c3 => ?_)
    · have c3 : x1 = 0 := (i_eq0 (rb hx1 (by decide) (by decide))).mp c3
      exact J20_2 _ _ _ _ (by omega) hI (fr.rf) hP hS (lv_sub hl [0, 1] rfl)
    · have c3 : ¬ x1 = 0 := mt (i_eq0 (rb hx1 (by decide) (by decide))).mpr c3
      refine lv_aload_n hx hb dX12_counts_11 rfl (lv_at hl 0 rfl) ?_
      refine lv_iconst (v := iI 5) hx hb dX12_counts_12 (by decide +kernel) ?_
      refine lv_aload_n hx hb dX12_counts_13 rfl (lv_at hl 0 rfl) ?_
      refine va_get (D := (dC, dI)) (ci := 12) (v := .int (iI (A 0 4))) (C := RX12) (T := TX12) (N := 85) hx hb hts hiX12 hown hK hP 0 wm0 rfl 4 (by decide) (hts _ (List.mem_cons_of_mem _ (wl_in_0 _ (List.mem_of_getElem? (i := 23) rfl)))) (fun _ h9 => h9) rfl dX12_counts_14 ?_
      have r_A_0_4 : (0 : Int) ≤ (A 0 4) ∧ (A 0 4) ≤ 1600 := hI 0 4
      refine x_callv (As := [.int (iI 5), .int (iI (A 0 4))]) (rest := []) ⟨hx, hb, hml, hown, hts⟩ (mc_X12_blame l dC dI cB cI cJ cZ cQ q _ 5 (A 0 4) hI ⟨by decide, by decide⟩ r_A_0_4) (cwV 2 hts (goodV (wl_in_0 _ (List.mem_of_getElem? (i := 31) rfl)) (wl_in_0 _ (List.mem_of_getElem? (i := 32) rfl)) (wl_in_0 _ (List.mem_of_getElem? (i := 33) rfl)) (wl_in_0 _ (List.mem_of_getElem? (i := 8) rfl)) (wl_in_0 _ (List.mem_of_getElem? (i := 15) rfl))) rfl rfl rfl (by decide +kernel) ⟨Nat.le_of_ble_eq_true rfl, Nat.le_of_ble_eq_true rfl⟩) hK hDD hA0 hP hS 0 12 wm0 rfl rfl hl.1 (Nat.le_of_ble_eq_true rfl) dX12_counts_17 (fun A4 H locs hw5 hP hS => ?_)
      obtain ⟨_, hI, hf6, hw5⟩ := hw5
      have r_A4_0_8 : (0 : Int) ≤ (A4 0 8) ∧ (A4 0 8) ≤ 5 := hI 0 8
      exact J20_2 _ _ _ _ (by omega) hI (fr.trans (fr.rf) hf6 rfl rfl) hP hS (lv_sub hl [0, 1] rfl)

def ws_mc_X12_fresh : List Cond := .code yX12_fresh cX12_fresh 3 (some .long) :: WX
set_option maxHeartbeats 4000000 in
set_option maxRecDepth 100000 in
theorem mc_X12_fresh (l : Launch) (dC : Nat → ClassId) (dI : Nat → Nat → Nat) (cB cI cJ cZ cQ : ClassId) (q : Nat → Nat) (A : St) (hI : IM A) : XMl l yX12_fresh ws_mc_X12_fresh ({ frames := 2, cells := 0, slots := 0, locals := 48 } : Room) (dC, dI) (tyA cB cI cJ cZ cQ) (WM cI cJ cZ q) A [.ref (q 0)] (fun z u => IM u ∧ fr [] [3, 4, 5, 6, 7, 8, 9] A u ∧ (-9223372036854775808 ≤ z ∧ z ≤ 9223372036854775807)) := by
  refine x_metl (cc := cX12_fresh) (maxL := 3) WM_adr (by decide +kernel) rfl (Nat.le_of_ble_eq_true rfl) (fun p e s m below meth c Q AS ls hx hb hml hown hts hK hDD hA0 hP hS hl RET => ?_)
  have hown : s.vm.findClass RX12 = some m.cls := hown
  have hl : lv_has ls 3 [(0, .ref (q 0))] := hl
  have hiX12 : ∀ w ∈ u_ws RX12 TX12 85, w ∈ ws_mc_X12_fresh := fun w h => List.mem_cons_of_mem _ (wx_lay w h)
  obtain ⟨H, hHe⟩ : ∃ H : Heap, H = s.heap := ⟨_, rfl⟩
  rw [← hHe] at hP
  have hS : va_S AS s.heap H [] := by rw [hHe]; exact hS
  suffices hgo : ∀ locs : List Loc, va_S AS s.heap H locs → W p l e (headSpec ws_mc_X12_fresh ({ frames := 2, cells := 0, slots := 0, locals := 48 } : Room)).room s m [.ref (q 0)].toArray below meth c H locs 0 0 Q (F0 m 0 ls []) by
    have := hgo [] hS
    rw [hHe] at this
    exact this
  clear hS hHe
  intro locs hS
  refine lv_aload_n hx hb dX12_fresh_0 rfl (lv_at hl 0 rfl) ?_
  refine va_get (D := (dC, dI)) (ci := 12) (v := .int (iI (A 0 8))) (C := RX12) (T := TX12) (N := 85) hx hb hts hiX12 hown hK hP 0 wm0 rfl 8 (by decide) (hts _ (List.mem_cons_of_mem _ (wl_in_0 _ (List.mem_of_getElem? (i := 16) rfl)))) (fun _ h9 => h9) rfl dX12_fresh_1 ?_
  have r_A_0_8 : (0 : Int) ≤ (A 0 8) ∧ (A 0 8) ≤ 5 := hI 0 8
  refine lv_if_le (tgt := 9) hx hb dX12_fresh_4 (by decide) (fun c1 => ?_) (fun c1 => ?_)
  · have c1 : (A 0 8) ≤ 0 := (i_le0 (rb r_A_0_8 (by decide) (by decide))).mp c1
    refine lv_aload_n hx hb dX12_fresh_9 rfl (lv_at hl 0 rfl) ?_
    refine va_get (D := (dC, dI)) (ci := 12) (v := .int (iI (A 0 3))) (C := RX12) (T := TX12) (N := 85) hx hb hts hiX12 hown hK hP 0 wm0 rfl 3 (by decide) (hts _ (List.mem_cons_of_mem _ (wl_in_0 _ (List.mem_of_getElem? (i := 24) rfl)))) (fun _ h9 => h9) rfl dX12_fresh_10 ?_
    have r_A_0_3 : (0 : Int) ≤ (A 0 3) ∧ (A 0 3) ≤ 3 := hI 0 3
    refine lv_iconst (v := iI 1) hx hb dX12_fresh_13 (by decide +kernel) ?_
    have J37_4 : ∀ (A14 : St) (H : Heap) (locs : List Loc) (ls : Array Slot), IM A14 → fr [] [8, 9] A A14 → va_P (dC, dI) vwCl (WM cI cJ cZ q A14) H → va_S AS s.heap H locs → lv_has ls 3 [(0, .ref (q 0))] → W p l e (headSpec ws_mc_X12_fresh ({ frames := 2, cells := 0, slots := 0, locals := 48 } : Room)).room s m [.ref (q 0)].toArray below meth c H locs 0 0 Q (F0 m 37 ls []) := by
      intro A14 H locs ls hI hj13 hP hS hl
      refine lv_iconst (v := iI 0) hx hb dX12_fresh_37 (by decide +kernel) ?_
      refine lv_istore_n (lv' := [(1, .int (iI 0)), (0, .ref (q 0))]) hx hb dX12_fresh_38 rfl hl (by decide) rfl (fun ls hl => ?_)
      have L39_18 : ∀ (n20 : Nat) (z15 : Int) (A17 : St) (H : Heap) (locs : List Loc) (ls : Array Slot), (0 ≤ z15) → (0 ≤ z15 ∧ z15 ≤ 2147483647) → ((4 - z15 + 1).toNat = n20) → IM A17 → fr [] [8, 9] A14 A17 → va_P (dC, dI) vwCl (WM cI cJ cZ q A17) H → va_S AS s.heap H locs → lv_has ls 3 [(1, .int (iI z15)), (0, .ref (q 0))] → W p l e (headSpec ws_mc_X12_fresh ({ frames := 2, cells := 0, slots := 0, locals := 48 } : Room)).room s m [.ref (q 0)].toArray below meth c H locs 0 0 Q (F0 m 39 ls []) := by
        intro n20
        induction n20 using Nat.strongRecOn with
        | ind n20 ih19 =>
          intro z15 A17 H locs ls f21 f22 hn20 hI hj16 hP hS hl
          refine lv_iload_n hx hb dX12_fresh_39 rfl (lv_at hl 0 rfl) ?_
          refine lv_iconst (v := iI 4) hx hb dX12_fresh_40 (by decide +kernel) ?_
          have J79_24 : ∀ (H : Heap) (locs : List Loc) (ls : Array Slot), va_P (dC, dI) vwCl (WM cI cJ cZ q A17) H → va_S AS s.heap H locs → lv_has ls 3 [(1, .int (iI z15)), (0, .ref (q 0))] → W p l e (headSpec ws_mc_X12_fresh ({ frames := 2, cells := 0, slots := 0, locals := 48 } : Room)).room s m [.ref (q 0)].toArray below meth c H locs 0 0 Q (F0 m 79 ls []) := by
            intro H locs ls hP hS hl
            refine lv_aload_n hx hb dX12_fresh_79 rfl (lv_at hl 1 rfl) ?_
            have e_A14_7 : A14 0 7 = (A 0 7) := (hj13.2 7 rfl)
            have e_A17_7 : A17 0 7 = (A 0 7) := (hj16.2 7 rfl).trans e_A14_7
            refine va_get (D := (dC, dI)) (ci := 12) (v := .long (jI (A17 0 7))) (C := RX12) (T := TX12) (N := 85) hx hb hts hiX12 hown hK hP 0 wm0 rfl 7 (by decide) (hts _ (List.mem_cons_of_mem _ (wl_in_0 _ (List.mem_of_getElem? (i := 26) rfl)))) (fun _ h9 => h9) rfl dX12_fresh_80 ?_
            refine tp_l (y := jI (A 0 7)) (congrArg jI e_A17_7) ?_
            have r_A_0_7 : (-9223372036854775808 : Int) ≤ (A 0 7) ∧ (A 0 7) ≤ 9223372036854775807 := by rw [← e_A17_7]; exact hI 0 7
            refine lv_lstore_n (lv' := [(1, .long (jI (A 0 7))), (0, .ref (q 0))]) hx hb dX12_fresh_83 rfl hl (by decide) rfl (fun ls hl => ?_)
            refine lv_aload_n hx hb dX12_fresh_84 rfl (lv_at hl 1 rfl) ?_
            refine va_get (D := (dC, dI)) (ci := 12) (v := .int (iI (A17 0 8))) (C := RX12) (T := TX12) (N := 85) hx hb hts hiX12 hown hK hP 0 wm0 rfl 8 (by decide) (hts _ (List.mem_cons_of_mem _ (wl_in_0 _ (List.mem_of_getElem? (i := 16) rfl)))) (fun _ h9 => h9) rfl dX12_fresh_85 ?_
            have r_A17_0_8 : (0 : Int) ≤ (A17 0 8) ∧ (A17 0 8) ≤ 5 := hI 0 8
            refine lv_if_ne (tgt := 95) hx hb dX12_fresh_88 (by decide) (fun c37 => ?_) (fun c37 => ?_)
            · have c37 : ¬ (A17 0 8) = 0 := mt (i_eq0 (rb r_A17_0_8 (by decide) (by decide))).mpr c37
              refine lv_lload_n hx hb dX12_fresh_95 rfl (lv_at hl 0 rfl) ?_
              exact RET (A 0 7) _ _ _ _ _ ⟨hI, fr.trans (fr.trans (fr.rf) hj13 rfl rfl) hj16 rfl rfl, by omega⟩ hP hS dX12_fresh_96
            · have c37 : (A17 0 8) = 0 := (i_eq0 (rb r_A17_0_8 (by decide) (by decide))).mp c37
              refine lv_aload_n hx hb dX12_fresh_91 rfl (lv_at hl 1 rfl) ?_
              refine x_callv (As := []) (rest := []) ⟨hx, hb, hml, hown, hts⟩ (mc_X12_ahead l dC dI cB cI cJ cZ cQ q _ hI) (cwV 0 hts (goodV (wl_in_0 _ (List.mem_of_getElem? (i := 40) rfl)) (wl_in_0 _ (List.mem_of_getElem? (i := 41) rfl)) (wl_in_0 _ (List.mem_of_getElem? (i := 42) rfl)) (wl_in_0 _ (List.mem_of_getElem? (i := 8) rfl)) (wl_in_0 _ (List.mem_of_getElem? (i := 20) rfl))) rfl rfl rfl (by decide +kernel) ⟨Nat.le_of_ble_eq_true rfl, Nat.le_of_ble_eq_true rfl⟩) hK hDD hA0 hP hS 0 12 wm0 rfl rfl hl.1 (Nat.le_of_ble_eq_true rfl) dX12_fresh_92 (fun A38 H locs hw39 hP hS => ?_)
              obtain ⟨hI, hf40, hw39⟩ := hw39
              clear hw39
              refine lv_lload_n hx hb dX12_fresh_95 rfl (lv_at hl 0 rfl) ?_
              exact RET (A 0 7) _ _ _ _ _ ⟨hI, fr.trans (fr.trans (fr.trans (fr.rf) hj13 rfl rfl) hj16 rfl rfl) hf40 rfl rfl, by omega⟩ hP hS dX12_fresh_96
          refine lv_icmp_gt (tgt := 79) hx hb dX12_fresh_41 (by decide) (fun c23 => ?_) (fun c23 => ?_)
          · have c23 : 4 < z15 := (i_lt ⟨by decide, by decide⟩ (rb f22 (by decide) (by decide))).mp c23
            exact J79_24 _ _ _ hP hS (lv_sub hl [0, 1] rfl)
          · have c23 : ¬ 4 < z15 := mt (i_lt ⟨by decide, by decide⟩ (rb f22 (by decide) (by decide))).mpr c23
            refine lv_aload_n hx hb dX12_fresh_44 rfl (lv_at hl 1 rfl) ?_
            refine va_get (D := (dC, dI)) (ci := 12) (v := .int (iI (A17 0 8))) (C := RX12) (T := TX12) (N := 85) hx hb hts hiX12 hown hK hP 0 wm0 rfl 8 (by decide) (hts _ (List.mem_cons_of_mem _ (wl_in_0 _ (List.mem_of_getElem? (i := 16) rfl)))) (fun _ h9 => h9) rfl dX12_fresh_45 ?_
            have r_A17_0_8 : (0 : Int) ≤ (A17 0 8) ∧ (A17 0 8) ≤ 5 := hI 0 8
            refine lv_if_ne (tgt := 79) hx hb dX12_fresh_48 (by decide) (fun c25 => ?_) (fun c25 => ?_)
            · have c25 : ¬ (A17 0 8) = 0 := mt (i_eq0 (rb r_A17_0_8 (by decide) (by decide))).mpr c25
              exact J79_24 _ _ _ hP hS (lv_sub hl [0, 1] rfl)
            · have c25 : (A17 0 8) = 0 := (i_eq0 (rb r_A17_0_8 (by decide) (by decide))).mp c25
              refine lv_aload_n hx hb dX12_fresh_51 rfl (lv_at hl 1 rfl) ?_
              refine lv_iload_n hx hb dX12_fresh_52 rfl (lv_at hl 0 rfl) ?_
              refine lv_aload_n hx hb dX12_fresh_53 rfl (lv_at hl 1 rfl) ?_
              have e_A14_7 : A14 0 7 = (A 0 7) := (hj13.2 7 rfl)
              have e_A17_7 : A17 0 7 = (A 0 7) := (hj16.2 7 rfl).trans e_A14_7
              refine va_get (D := (dC, dI)) (ci := 12) (v := .long (jI (A17 0 7))) (C := RX12) (T := TX12) (N := 85) hx hb hts hiX12 hown hK hP 0 wm0 rfl 7 (by decide) (hts _ (List.mem_cons_of_mem _ (wl_in_0 _ (List.mem_of_getElem? (i := 26) rfl)))) (fun _ h9 => h9) rfl dX12_fresh_54 ?_
              refine tp_l (y := jI (A 0 7)) (congrArg jI e_A17_7) ?_
              have r_A_0_7 : (-9223372036854775808 : Int) ≤ (A 0 7) ∧ (A 0 7) ≤ 9223372036854775807 := by rw [← e_A17_7]; exact hI 0 7
              refine x_calli (As := [.int (iI z15), .long (jI (A 0 7))]) (rest := []) ⟨hx, hb, hml, hown, hts⟩ (mc_X12_named l dC dI cB cI cJ cZ cQ q _ z15 (A 0 7) hI (by omega) r_A_0_7) (cwV 2 hts (goodV (wl_in_2 _ (List.mem_of_getElem? (i := 26) rfl)) (wl_in_2 _ (List.mem_of_getElem? (i := 27) rfl)) (wl_in_2 _ (List.mem_of_getElem? (i := 28) rfl)) (wl_in_0 _ (List.mem_of_getElem? (i := 8) rfl)) (wl_in_1 _ (List.mem_of_getElem? (i := 10) rfl))) rfl rfl rfl (by decide +kernel) ⟨Nat.le_of_ble_eq_true rfl, Nat.le_of_ble_eq_true rfl⟩) hK hDD hA0 hP hS 0 12 wm0 rfl rfl hl.1 (Nat.le_of_ble_eq_true rfl) dX12_fresh_57 (fun z26 A27 H locs hw28 hP hS => ?_)
              obtain ⟨rfl, hw28⟩ := hw28
              have hw28 := hw28.2
              have hw28 : -1 ≤ z26 ∧ z26 ≤ 9 := ⟨hw28.1, hw28.2.1⟩
              refine lv_iconst (v := iI (-1)) hx hb dX12_fresh_60 (by decide +kernel) ?_
              have J73_30 : ∀ (A35 : St) (H : Heap) (locs : List Loc) (ls : Array Slot), IM A35 → fr [] [8, 9] A17 A35 → va_P (dC, dI) vwCl (WM cI cJ cZ q A35) H → va_S AS s.heap H locs → lv_has ls 3 [(1, .int (iI z15)), (0, .ref (q 0))] → W p l e (headSpec ws_mc_X12_fresh ({ frames := 2, cells := 0, slots := 0, locals := 48 } : Room)).room s m [.ref (q 0)].toArray below meth c H locs 0 0 Q (F0 m 73 ls []) := by
                intro A35 H locs ls hI hj34 hP hS hl
                refine lv_iinc (v := iI (z15 + 1)) (lv' := [(1, .int (iI (z15 + 1))), (0, .ref (q 0))]) hx hb dX12_fresh_73 hl (k := 0) rfl (i_inc (by omega)) (by decide) rfl (fun ls hl => ?_)
                refine lv_goto (tgt := 39) hx hb dX12_fresh_76 (by decide) ?_
                exact ih19 _ (by omega) (z15 + 1) _ _ _ _ (by omega) (by omega) rfl hI (fr.trans (fr.trans (fr.rf) hj16 rfl rfl) hj34 rfl rfl) hP hS (lv_sub hl [0, 1] rfl)
              refine lv_icmp_eq (tgt := 73) hx hb dX12_fresh_61 (by decide) (fun c29 => ?_) (fun c29 => ?_)
              · have c29 : z26 = (-1) := (i_eq (rb hw28 (by decide) (by decide)) ⟨by decide, by decide⟩).mp c29
                exact J73_30 _ _ _ _ hI (fr.rf) hP hS (lv_sub hl [0, 1] rfl)
              · have c29 : ¬ z26 = (-1) := mt (i_eq (rb hw28 (by decide) (by decide)) ⟨by decide, by decide⟩).mpr c29
                refine lv_aload_n hx hb dX12_fresh_64 rfl (lv_at hl 1 rfl) ?_
                refine lv_iconst (v := iI 2) hx hb dX12_fresh_65 (by decide +kernel) ?_
                refine lv_aload_n hx hb dX12_fresh_66 rfl (lv_at hl 1 rfl) ?_
                have e_A14_4 : A14 0 4 = (A 0 4) := (hj13.2 4 rfl)
                have e_A17_4 : A17 0 4 = (A 0 4) := (hj16.2 4 rfl).trans e_A14_4
                refine va_get (D := (dC, dI)) (ci := 12) (v := .int (iI (A17 0 4))) (C := RX12) (T := TX12) (N := 85) hx hb hts hiX12 hown hK hP 0 wm0 rfl 4 (by decide) (hts _ (List.mem_cons_of_mem _ (wl_in_0 _ (List.mem_of_getElem? (i := 23) rfl)))) (fun _ h9 => h9) rfl dX12_fresh_67 ?_
                refine tp_i (y := iI (A 0 4)) (congrArg iI e_A17_4) ?_
                have r_A_0_4 : (0 : Int) ≤ (A 0 4) ∧ (A 0 4) ≤ 1600 := by rw [← e_A17_4]; exact hI 0 4
                refine x_callv (As := [.int (iI 2), .int (iI (A 0 4))]) (rest := []) ⟨hx, hb, hml, hown, hts⟩ (mc_X12_blame l dC dI cB cI cJ cZ cQ q _ 2 (A 0 4) hI ⟨by decide, by decide⟩ r_A_0_4) (cwV 2 hts (goodV (wl_in_0 _ (List.mem_of_getElem? (i := 31) rfl)) (wl_in_0 _ (List.mem_of_getElem? (i := 32) rfl)) (wl_in_0 _ (List.mem_of_getElem? (i := 33) rfl)) (wl_in_0 _ (List.mem_of_getElem? (i := 8) rfl)) (wl_in_0 _ (List.mem_of_getElem? (i := 15) rfl))) rfl rfl rfl (by decide +kernel) ⟨Nat.le_of_ble_eq_true rfl, Nat.le_of_ble_eq_true rfl⟩) hK hDD hA0 hP hS 0 12 wm0 rfl rfl hl.1 (Nat.le_of_ble_eq_true rfl) dX12_fresh_70 (fun A31 H locs hw32 hP hS => ?_)
                obtain ⟨_, hI, hf33, hw32⟩ := hw32
                have r_A31_0_8 : (0 : Int) ≤ (A31 0 8) ∧ (A31 0 8) ≤ 5 := hI 0 8
                exact J73_30 _ _ _ _ hI (fr.trans (fr.rf) hf33 rfl rfl) hP hS (lv_sub hl [0, 1] rfl)
      exact L39_18 _ 0 _ _ _ _ (by omega) (by omega) rfl hI (fr.rf) hP hS (lv_sub hl [0, 1] rfl)
    have J28_3 : ∀ (H : Heap) (locs : List Loc) (ls : Array Slot), va_P (dC, dI) vwCl (WM cI cJ cZ q A) H → va_S AS s.heap H locs → lv_has ls 3 [(0, .ref (q 0))] → W p l e (headSpec ws_mc_X12_fresh ({ frames := 2, cells := 0, slots := 0, locals := 48 } : Room)).room s m [.ref (q 0)].toArray below meth c H locs 0 0 Q (F0 m 28 ls []) := by
      intro H locs ls hP hS hl
      refine lv_aload_n hx hb dX12_fresh_28 rfl (lv_at hl 0 rfl) ?_
      refine lv_iconst (v := iI 1) hx hb dX12_fresh_29 (by decide +kernel) ?_
      refine lv_aload_n hx hb dX12_fresh_30 rfl (lv_at hl 0 rfl) ?_
      refine va_get (D := (dC, dI)) (ci := 12) (v := .int (iI (A 0 4))) (C := RX12) (T := TX12) (N := 85) hx hb hts hiX12 hown hK hP 0 wm0 rfl 4 (by decide) (hts _ (List.mem_cons_of_mem _ (wl_in_0 _ (List.mem_of_getElem? (i := 23) rfl)))) (fun _ h9 => h9) rfl dX12_fresh_31 ?_
      have r_A_0_4 : (0 : Int) ≤ (A 0 4) ∧ (A 0 4) ≤ 1600 := hI 0 4
      refine x_callv (As := [.int (iI 1), .int (iI (A 0 4))]) (rest := []) ⟨hx, hb, hml, hown, hts⟩ (mc_X12_blame l dC dI cB cI cJ cZ cQ q _ 1 (A 0 4) hI ⟨by decide, by decide⟩ r_A_0_4) (cwV 2 hts (goodV (wl_in_0 _ (List.mem_of_getElem? (i := 31) rfl)) (wl_in_0 _ (List.mem_of_getElem? (i := 32) rfl)) (wl_in_0 _ (List.mem_of_getElem? (i := 33) rfl)) (wl_in_0 _ (List.mem_of_getElem? (i := 8) rfl)) (wl_in_0 _ (List.mem_of_getElem? (i := 15) rfl))) rfl rfl rfl (by decide +kernel) ⟨Nat.le_of_ble_eq_true rfl, Nat.le_of_ble_eq_true rfl⟩) hK hDD hA0 hP hS 0 12 wm0 rfl rfl hl.1 (Nat.le_of_ble_eq_true rfl) dX12_fresh_34 (fun A10 H locs hw11 hP hS => ?_)
      obtain ⟨_, hI, hf12, hw11⟩ := hw11
      have r_A10_0_8 : (0 : Int) ≤ (A10 0 8) ∧ (A10 0 8) ≤ 5 := hI 0 8
      exact J37_4 _ _ _ _ hI (fr.trans (fr.rf) hf12 rfl rfl) hP hS (lv_sub hl [0] rfl)
    refine lv_icmp_ne (tgt := 28) hx hb dX12_fresh_14 (by decide) (fun c2 => ?_) (fun c2 => ?_)
    · have c2 : ¬ (A 0 3) = 1 := mt (i_eq (rb r_A_0_3 (by decide) (by decide)) ⟨by decide, by decide⟩).mpr c2
      exact J28_3 _ _ _ hP hS (lv_sub hl [0] rfl)
    · have c2 : (A 0 3) = 1 := (i_eq (rb r_A_0_3 (by decide) (by decide)) ⟨by decide, by decide⟩).mp c2
      refine lv_aload_n hx hb dX12_fresh_17 rfl (lv_at hl 0 rfl) ?_
      refine lv_aload_n hx hb dX12_fresh_18 rfl (lv_at hl 0 rfl) ?_
      refine va_get (D := (dC, dI)) (ci := 12) (v := .long (jI (A 0 7))) (C := RX12) (T := TX12) (N := 85) hx hb hts hiX12 hown hK hP 0 wm0 rfl 7 (by decide) (hts _ (List.mem_cons_of_mem _ (wl_in_0 _ (List.mem_of_getElem? (i := 26) rfl)))) (fun _ h9 => h9) rfl dX12_fresh_19 ?_
      have r_A_0_7 : (-9223372036854775808 : Int) ≤ (A 0 7) ∧ (A 0 7) ≤ 9223372036854775807 := hI 0 7
      refine x_calli (As := [.long (jI (A 0 7))]) (rest := []) ⟨hx, hb, hml, hown, hts⟩ (mc_X12_isOwn l dC dI cB cI cJ cZ cQ q _ (A 0 7) hI r_A_0_7) (cwV 1 hts (goodV (wl_in_2 _ (List.mem_of_getElem? (i := 23) rfl)) (wl_in_2 _ (List.mem_of_getElem? (i := 24) rfl)) (wl_in_2 _ (List.mem_of_getElem? (i := 25) rfl)) (wl_in_0 _ (List.mem_of_getElem? (i := 8) rfl)) (wl_in_0 _ (List.mem_of_getElem? (i := 43) rfl))) rfl rfl rfl (by decide +kernel) ⟨Nat.le_of_ble_eq_true rfl, Nat.le_of_ble_eq_true rfl⟩) hK hDD hA0 hP hS 0 12 wm0 rfl rfl hl.1 (Nat.le_of_ble_eq_true rfl) dX12_fresh_22 (fun z5 A6 H locs hw7 hP hS => ?_)
      obtain ⟨rfl, hw7⟩ := hw7
      refine lv_if_eq (tgt := 37) hx hb dX12_fresh_25 (by decide) (fun c8 => ?_) (fun c8 => ?_)
      · have c8 : z5 = 0 := (i_eq0 (rb hw7 (by decide) (by decide))).mp c8
        exact J37_4 _ _ _ _ hI (fr.rf) hP hS (lv_sub hl [0] rfl)
      · have c8 : ¬ z5 = 0 := mt (i_eq0 (rb hw7 (by decide) (by decide))).mpr c8
        exact J28_3 _ _ _ hP hS (lv_sub hl [0] rfl)
  · have c1 : ¬ (A 0 8) ≤ 0 := mt (i_le0 (rb r_A_0_8 (by decide) (by decide))).mpr c1
    refine lv_lconst (v := jI 0) hx hb dX12_fresh_7 (by decide +kernel) ?_
    exact RET 0 _ _ _ _ _ ⟨hI, fr.rf, by omega⟩ hP hS dX12_fresh_8

def ws_mc_X12_asked : List Cond := .code yX12_asked cX12_asked 3 (some .int) :: WX
set_option maxHeartbeats 4000000 in
set_option maxRecDepth 100000 in
theorem mc_X12_asked (l : Launch) (dC : Nat → ClassId) (dI : Nat → Nat → Nat) (cB cI cJ cZ cQ : ClassId) (q : Nat → Nat) (A : St) (x1 : Int) (hI : IM A) (hx1 : (0 : Int) ≤ x1 ∧ x1 ≤ 4) : XMi l yX12_asked ws_mc_X12_asked ({ frames := 2, cells := 0, slots := 0, locals := 48 } : Room) (dC, dI) (tyA cB cI cJ cZ cQ) (WM cI cJ cZ q) A [.ref (q 0), .int (iI x1)] (fun z u => IM u ∧ fr [] [3, 4, 5, 6, 7, 8, 9] A u ∧ (0 ≤ z ∧ z ≤ 9 ∧ (x1 = 0 → z ≤ 7) ∧ (x1 = 2 → z ≤ 3) ∧ (x1 = 3 → z ≤ 2) ∧ (x1 = 4 → z ≤ 3))) := by
  refine x_meti (cc := cX12_asked) (maxL := 3) WM_adr (by decide +kernel) rfl (Nat.le_of_ble_eq_true rfl) (fun p e s m below meth c Q AS ls hx hb hml hown hts hK hDD hA0 hP hS hl RET => ?_)
  have hown : s.vm.findClass RX12 = some m.cls := hown
  have hl : lv_has ls 3 [(0, .ref (q 0)), (1, .int (iI x1))] := hl
  have hiX12 : ∀ w ∈ u_ws RX12 TX12 85, w ∈ ws_mc_X12_asked := fun w h => List.mem_cons_of_mem _ (wx_lay w h)
  obtain ⟨H, hHe⟩ : ∃ H : Heap, H = s.heap := ⟨_, rfl⟩
  rw [← hHe] at hP
  have hS : va_S AS s.heap H [] := by rw [hHe]; exact hS
  suffices hgo : ∀ locs : List Loc, va_S AS s.heap H locs → W p l e (headSpec ws_mc_X12_asked ({ frames := 2, cells := 0, slots := 0, locals := 48 } : Room)).room s m [.ref (q 0), .int (iI x1)].toArray below meth c H locs 0 0 Q (F0 m 0 ls []) by
    have := hgo [] hS
    rw [hHe] at this
    exact this
  clear hS hHe
  intro locs hS
  rcases (show x1 = 0 ∨ x1 = 1 ∨ x1 = 2 ∨ x1 = 3 ∨ x1 = 4 by omega) with rfl | rfl | rfl | rfl | rfl
  · have hl : lv_has ls 3 [(0, .ref (q 0)), (1, .int (iI 0))] := hl
    refine lv_aload_n hx hb dX12_asked_0 rfl (lv_at hl 0 rfl) ?_
    refine va_get (D := (dC, dI)) (ci := 12) (v := .int (iI (A 0 8))) (C := RX12) (T := TX12) (N := 85) hx hb hts hiX12 hown hK hP 0 wm0 rfl 8 (by decide) (hts _ (List.mem_cons_of_mem _ (wl_in_0 _ (List.mem_of_getElem? (i := 16) rfl)))) (fun _ h9 => h9) rfl dX12_asked_1 ?_
    have r_A_0_8 : (0 : Int) ≤ (A 0 8) ∧ (A 0 8) ≤ 5 := hI 0 8
    refine lv_if_le (tgt := 9) hx hb dX12_asked_4 (by decide) (fun c1 => ?_) (fun c1 => ?_)
    · have c1 : (A 0 8) ≤ 0 := (i_le0 (rb r_A_0_8 (by decide) (by decide))).mp c1
      refine lv_aload_n hx hb dX12_asked_9 rfl (lv_at hl 0 rfl) ?_
      refine va_get (D := (dC, dI)) (ci := 12) (v := .int (iI (A 0 3))) (C := RX12) (T := TX12) (N := 85) hx hb hts hiX12 hown hK hP 0 wm0 rfl 3 (by decide) (hts _ (List.mem_cons_of_mem _ (wl_in_0 _ (List.mem_of_getElem? (i := 24) rfl)))) (fun _ h9 => h9) rfl dX12_asked_10 ?_
      have r_A_0_3 : (0 : Int) ≤ (A 0 3) ∧ (A 0 3) ≤ 3 := hI 0 3
      refine lv_iconst (v := iI 1) hx hb dX12_asked_13 (by decide +kernel) ?_
      have J37_4 : ∀ (A14 : St) (H : Heap) (locs : List Loc) (ls : Array Slot), IM A14 → fr [] [8, 9] A A14 → va_P (dC, dI) vwCl (WM cI cJ cZ q A14) H → va_S AS s.heap H locs → lv_has ls 3 [(0, .ref (q 0)), (1, .int (iI 0))] → W p l e (headSpec ws_mc_X12_asked ({ frames := 2, cells := 0, slots := 0, locals := 48 } : Room)).room s m [.ref (q 0), .int (iI 0)].toArray below meth c H locs 0 0 Q (F0 m 37 ls []) := by
        intro A14 H locs ls hI hj13 hP hS hl
        refine lv_aload_n hx hb dX12_asked_37 rfl (lv_at hl 0 rfl) ?_
        refine va_get (D := (dC, dI)) (ci := 12) (v := .int (iI (A14 0 8))) (C := RX12) (T := TX12) (N := 85) hx hb hts hiX12 hown hK hP 0 wm0 rfl 8 (by decide) (hts _ (List.mem_cons_of_mem _ (wl_in_0 _ (List.mem_of_getElem? (i := 16) rfl)))) (fun _ h9 => h9) rfl dX12_asked_38 ?_
        have r_A14_0_8 : (0 : Int) ≤ (A14 0 8) ∧ (A14 0 8) ≤ 5 := hI 0 8
        have J57_16 : ∀ (z20 : Int) (H : Heap) (locs : List Loc) (ls : Array Slot), (-1 ≤ z20 ∧ z20 ≤ 7) → va_P (dC, dI) vwCl (WM cI cJ cZ q A14) H → va_S AS s.heap H locs → lv_has ls 3 [(0, .ref (q 0)), (1, .int (iI 0))] → W p l e (headSpec ws_mc_X12_asked ({ frames := 2, cells := 0, slots := 0, locals := 48 } : Room)).room s m [.ref (q 0), .int (iI 0)].toArray below meth c H locs 0 0 Q (F0 m 57 ls [.int (iI z20)]) := by
          intro z20 H locs ls f22 hP hS hl
          refine lv_istore_n (lv' := [(2, .int (iI z20)), (0, .ref (q 0)), (1, .int (iI 0))]) hx hb dX12_asked_57 rfl hl (by decide) rfl (fun ls hl => ?_)
          refine lv_aload_n hx hb dX12_asked_58 rfl (lv_at hl 1 rfl) ?_
          refine va_get (D := (dC, dI)) (ci := 12) (v := .int (iI (A14 0 8))) (C := RX12) (T := TX12) (N := 85) hx hb hts hiX12 hown hK hP 0 wm0 rfl 8 (by decide) (hts _ (List.mem_cons_of_mem _ (wl_in_0 _ (List.mem_of_getElem? (i := 16) rfl)))) (fun _ h9 => h9) rfl dX12_asked_59 ?_
          have J79_24 : ∀ (A30 : St) (H : Heap) (locs : List Loc) (ls : Array Slot), ((A30 0 8) = 0 → 0 ≤ z20) → IM A30 → fr [] [8, 9] A14 A30 → va_P (dC, dI) vwCl (WM cI cJ cZ q A30) H → va_S AS s.heap H locs → lv_has ls 3 [(2, .int (iI z20)), (0, .ref (q 0)), (1, .int (iI 0))] → W p l e (headSpec ws_mc_X12_asked ({ frames := 2, cells := 0, slots := 0, locals := 48 } : Room)).room s m [.ref (q 0), .int (iI 0)].toArray below meth c H locs 0 0 Q (F0 m 79 ls []) := by
            intro A30 H locs ls f31 hI hj29 hP hS hl
            refine lv_aload_n hx hb dX12_asked_79 rfl (lv_at hl 1 rfl) ?_
            refine va_get (D := (dC, dI)) (ci := 12) (v := .int (iI (A30 0 8))) (C := RX12) (T := TX12) (N := 85) hx hb hts hiX12 hown hK hP 0 wm0 rfl 8 (by decide) (hts _ (List.mem_cons_of_mem _ (wl_in_0 _ (List.mem_of_getElem? (i := 16) rfl)))) (fun _ h9 => h9) rfl dX12_asked_80 ?_
            have r_A30_0_8 : (0 : Int) ≤ (A30 0 8) ∧ (A30 0 8) ≤ 5 := hI 0 8
            have J90_33 : ∀ (A38 : St) (H : Heap) (locs : List Loc) (ls : Array Slot), ((A38 0 8) = 0 → 0 ≤ z20) → IM A38 → fr [] [3, 4, 5, 6, 7, 8, 9] A30 A38 → va_P (dC, dI) vwCl (WM cI cJ cZ q A38) H → va_S AS s.heap H locs → lv_has ls 3 [(2, .int (iI z20)), (0, .ref (q 0)), (1, .int (iI 0))] → W p l e (headSpec ws_mc_X12_asked ({ frames := 2, cells := 0, slots := 0, locals := 48 } : Room)).room s m [.ref (q 0), .int (iI 0)].toArray below meth c H locs 0 0 Q (F0 m 90 ls []) := by
              intro A38 H locs ls f39 hI hj37 hP hS hl
              refine lv_aload_n hx hb dX12_asked_90 rfl (lv_at hl 1 rfl) ?_
              refine va_get (D := (dC, dI)) (ci := 12) (v := .int (iI (A38 0 8))) (C := RX12) (T := TX12) (N := 85) hx hb hts hiX12 hown hK hP 0 wm0 rfl 8 (by decide) (hts _ (List.mem_cons_of_mem _ (wl_in_0 _ (List.mem_of_getElem? (i := 16) rfl)))) (fun _ h9 => h9) rfl dX12_asked_91 ?_
              have r_A38_0_8 : (0 : Int) ≤ (A38 0 8) ∧ (A38 0 8) ≤ 5 := hI 0 8
              refine lv_if_le (tgt := 101) hx hb dX12_asked_94 (by decide) (fun c40 => ?_) (fun c40 => ?_)
              · have c40 : (A38 0 8) ≤ 0 := (i_le0 (rb r_A38_0_8 (by decide) (by decide))).mp c40
                refine lv_iload_n hx hb dX12_asked_101 rfl (lv_at hl 0 rfl) ?_
                exact RET z20 _ _ _ _ _ ⟨hI, fr.trans (fr.trans (fr.trans (fr.rf) hj13 rfl rfl) hj29 rfl rfl) hj37 rfl rfl, by omega⟩ hP hS dX12_asked_102
              · have c40 : ¬ (A38 0 8) ≤ 0 := mt (i_le0 (rb r_A38_0_8 (by decide) (by decide))).mpr c40
                refine lv_iconst (v := iI 0) hx hb dX12_asked_97 (by decide +kernel) ?_
                refine lv_goto (tgt := 102) hx hb dX12_asked_98 (by decide) ?_
                exact RET 0 _ _ _ _ _ ⟨hI, fr.trans (fr.trans (fr.trans (fr.rf) hj13 rfl rfl) hj29 rfl rfl) hj37 rfl rfl, by omega⟩ hP hS dX12_asked_102
            refine lv_if_ne (tgt := 90) hx hb dX12_asked_83 (by decide) (fun c32 => ?_) (fun c32 => ?_)
            · have c32 : ¬ (A30 0 8) = 0 := mt (i_eq0 (rb r_A30_0_8 (by decide) (by decide))).mpr c32
              exact J90_33 _ _ _ _ (by omega) hI (fr.rf) hP hS (lv_sub hl [0, 1, 2] rfl)
            · have c32 : (A30 0 8) = 0 := (i_eq0 (rb r_A30_0_8 (by decide) (by decide))).mp c32
              refine lv_aload_n hx hb dX12_asked_86 rfl (lv_at hl 1 rfl) ?_
              refine x_callv (As := []) (rest := []) ⟨hx, hb, hml, hown, hts⟩ (mc_X12_ahead l dC dI cB cI cJ cZ cQ q _ hI) (cwV 0 hts (goodV (wl_in_0 _ (List.mem_of_getElem? (i := 40) rfl)) (wl_in_0 _ (List.mem_of_getElem? (i := 41) rfl)) (wl_in_0 _ (List.mem_of_getElem? (i := 42) rfl)) (wl_in_0 _ (List.mem_of_getElem? (i := 8) rfl)) (wl_in_0 _ (List.mem_of_getElem? (i := 20) rfl))) rfl rfl rfl (by decide +kernel) ⟨Nat.le_of_ble_eq_true rfl, Nat.le_of_ble_eq_true rfl⟩) hK hDD hA0 hP hS 0 12 wm0 rfl rfl hl.1 (Nat.le_of_ble_eq_true rfl) dX12_asked_87 (fun A34 H locs hw35 hP hS => ?_)
              obtain ⟨hI, hf36, hw35⟩ := hw35
              clear hw35
              have r_A34_0_8 : (0 : Int) ≤ (A34 0 8) ∧ (A34 0 8) ≤ 5 := hI 0 8
              exact J90_33 _ _ _ _ (by omega) hI (fr.trans (fr.rf) hf36 rfl rfl) hP hS (lv_sub hl [0, 1, 2] rfl)
          refine lv_if_ne (tgt := 79) hx hb dX12_asked_62 (by decide) (fun c23 => ?_) (fun c23 => ?_)
          · have c23 : ¬ (A14 0 8) = 0 := mt (i_eq0 (rb r_A14_0_8 (by decide) (by decide))).mpr c23
            exact J79_24 _ _ _ _ (by omega) hI (fr.rf) hP hS (lv_sub hl [0, 1, 2] rfl)
          · have c23 : (A14 0 8) = 0 := (i_eq0 (rb r_A14_0_8 (by decide) (by decide))).mp c23
            refine lv_iload_n hx hb dX12_asked_65 rfl (lv_at hl 0 rfl) ?_
            refine lv_iconst (v := iI (-1)) hx hb dX12_asked_66 (by decide +kernel) ?_
            refine lv_icmp_ne (tgt := 79) hx hb dX12_asked_67 (by decide) (fun c25 => ?_) (fun c25 => ?_)
            · have c25 : ¬ z20 = (-1) := mt (i_eq (rb f22 (by decide) (by decide)) ⟨by decide, by decide⟩).mpr c25
              exact J79_24 _ _ _ _ (by omega) hI (fr.rf) hP hS (lv_sub hl [0, 1, 2] rfl)
            · have c25 : z20 = (-1) := (i_eq (rb f22 (by decide) (by decide)) ⟨by decide, by decide⟩).mp c25
              refine lv_aload_n hx hb dX12_asked_70 rfl (lv_at hl 1 rfl) ?_
              refine lv_iconst (v := iI 3) hx hb dX12_asked_71 (by decide +kernel) ?_
              refine lv_aload_n hx hb dX12_asked_72 rfl (lv_at hl 1 rfl) ?_
              have e_A14_4 : A14 0 4 = (A 0 4) := (hj13.2 4 rfl)
              refine va_get (D := (dC, dI)) (ci := 12) (v := .int (iI (A14 0 4))) (C := RX12) (T := TX12) (N := 85) hx hb hts hiX12 hown hK hP 0 wm0 rfl 4 (by decide) (hts _ (List.mem_cons_of_mem _ (wl_in_0 _ (List.mem_of_getElem? (i := 23) rfl)))) (fun _ h9 => h9) rfl dX12_asked_73 ?_
              refine tp_i (y := iI (A 0 4)) (congrArg iI e_A14_4) ?_
              have r_A_0_4 : (0 : Int) ≤ (A 0 4) ∧ (A 0 4) ≤ 1600 := by rw [← e_A14_4]; exact hI 0 4
              refine x_callv (As := [.int (iI 3), .int (iI (A 0 4))]) (rest := []) ⟨hx, hb, hml, hown, hts⟩ (mc_X12_blame l dC dI cB cI cJ cZ cQ q _ 3 (A 0 4) hI ⟨by decide, by decide⟩ r_A_0_4) (cwV 2 hts (goodV (wl_in_0 _ (List.mem_of_getElem? (i := 31) rfl)) (wl_in_0 _ (List.mem_of_getElem? (i := 32) rfl)) (wl_in_0 _ (List.mem_of_getElem? (i := 33) rfl)) (wl_in_0 _ (List.mem_of_getElem? (i := 8) rfl)) (wl_in_0 _ (List.mem_of_getElem? (i := 15) rfl))) rfl rfl rfl (by decide +kernel) ⟨Nat.le_of_ble_eq_true rfl, Nat.le_of_ble_eq_true rfl⟩) hK hDD hA0 hP hS 0 12 wm0 rfl rfl hl.1 (Nat.le_of_ble_eq_true rfl) dX12_asked_76 (fun A26 H locs hw27 hP hS => ?_)
              obtain ⟨_, hI, hf28, hw27⟩ := hw27
              have r_A26_0_8 : (0 : Int) ≤ (A26 0 8) ∧ (A26 0 8) ≤ 5 := hI 0 8
              exact J79_24 _ _ _ _ (by omega) hI (fr.trans (fr.rf) hf28 rfl rfl) hP hS (lv_sub hl [0, 1, 2] rfl)
        refine lv_if_le (tgt := 48) hx hb dX12_asked_41 (by decide) (fun c15 => ?_) (fun c15 => ?_)
        · have c15 : (A14 0 8) ≤ 0 := (i_le0 (rb r_A14_0_8 (by decide) (by decide))).mp c15
          refine lv_aload_n hx hb dX12_asked_48 rfl (lv_at hl 0 rfl) ?_
          refine lv_iload_n hx hb dX12_asked_49 rfl (lv_at hl 1 rfl) ?_
          refine lv_aload_n hx hb dX12_asked_50 rfl (lv_at hl 0 rfl) ?_
          have e_A14_7 : A14 0 7 = (A 0 7) := (hj13.2 7 rfl)
          refine va_get (D := (dC, dI)) (ci := 12) (v := .long (jI (A14 0 7))) (C := RX12) (T := TX12) (N := 85) hx hb hts hiX12 hown hK hP 0 wm0 rfl 7 (by decide) (hts _ (List.mem_cons_of_mem _ (wl_in_0 _ (List.mem_of_getElem? (i := 26) rfl)))) (fun _ h9 => h9) rfl dX12_asked_51 ?_
          refine tp_l (y := jI (A 0 7)) (congrArg jI e_A14_7) ?_
          have r_A_0_7 : (-9223372036854775808 : Int) ≤ (A 0 7) ∧ (A 0 7) ≤ 9223372036854775807 := by rw [← e_A14_7]; exact hI 0 7
          refine x_calli (As := [.int (iI 0), .long (jI (A 0 7))]) (rest := []) ⟨hx, hb, hml, hown, hts⟩ (mc_X12_named l dC dI cB cI cJ cZ cQ q _ 0 (A 0 7) hI ⟨by decide, by decide⟩ r_A_0_7) (cwV 2 hts (goodV (wl_in_2 _ (List.mem_of_getElem? (i := 26) rfl)) (wl_in_2 _ (List.mem_of_getElem? (i := 27) rfl)) (wl_in_2 _ (List.mem_of_getElem? (i := 28) rfl)) (wl_in_0 _ (List.mem_of_getElem? (i := 8) rfl)) (wl_in_1 _ (List.mem_of_getElem? (i := 10) rfl))) rfl rfl rfl (by decide +kernel) ⟨Nat.le_of_ble_eq_true rfl, Nat.le_of_ble_eq_true rfl⟩) hK hDD hA0 hP hS 0 12 wm0 rfl rfl hl.1 (Nat.le_of_ble_eq_true rfl) dX12_asked_54 (fun z17 A18 H locs hw19 hP hS => ?_)
          obtain ⟨rfl, hw19⟩ := hw19
          have hw19 := hw19.2
          have hw19 : -1 ≤ z17 ∧ z17 ≤ 7 := ⟨hw19.1, hw19.2.2.1 rfl⟩
          exact J57_16 z17 _ _ _ (by omega) hP hS (lv_sub hl [0, 1] rfl)
        · have c15 : ¬ (A14 0 8) ≤ 0 := mt (i_le0 (rb r_A14_0_8 (by decide) (by decide))).mpr c15
          refine lv_iconst (v := iI 0) hx hb dX12_asked_44 (by decide +kernel) ?_
          refine lv_goto (tgt := 57) hx hb dX12_asked_45 (by decide) ?_
          exact J57_16 0 _ _ _ (by omega) hP hS (lv_sub hl [0, 1] rfl)
      have J28_3 : ∀ (H : Heap) (locs : List Loc) (ls : Array Slot), va_P (dC, dI) vwCl (WM cI cJ cZ q A) H → va_S AS s.heap H locs → lv_has ls 3 [(0, .ref (q 0)), (1, .int (iI 0))] → W p l e (headSpec ws_mc_X12_asked ({ frames := 2, cells := 0, slots := 0, locals := 48 } : Room)).room s m [.ref (q 0), .int (iI 0)].toArray below meth c H locs 0 0 Q (F0 m 28 ls []) := by
        intro H locs ls hP hS hl
        refine lv_aload_n hx hb dX12_asked_28 rfl (lv_at hl 0 rfl) ?_
        refine lv_iconst (v := iI 1) hx hb dX12_asked_29 (by decide +kernel) ?_
        refine lv_aload_n hx hb dX12_asked_30 rfl (lv_at hl 0 rfl) ?_
        refine va_get (D := (dC, dI)) (ci := 12) (v := .int (iI (A 0 4))) (C := RX12) (T := TX12) (N := 85) hx hb hts hiX12 hown hK hP 0 wm0 rfl 4 (by decide) (hts _ (List.mem_cons_of_mem _ (wl_in_0 _ (List.mem_of_getElem? (i := 23) rfl)))) (fun _ h9 => h9) rfl dX12_asked_31 ?_
        have r_A_0_4 : (0 : Int) ≤ (A 0 4) ∧ (A 0 4) ≤ 1600 := hI 0 4
        refine x_callv (As := [.int (iI 1), .int (iI (A 0 4))]) (rest := []) ⟨hx, hb, hml, hown, hts⟩ (mc_X12_blame l dC dI cB cI cJ cZ cQ q _ 1 (A 0 4) hI ⟨by decide, by decide⟩ r_A_0_4) (cwV 2 hts (goodV (wl_in_0 _ (List.mem_of_getElem? (i := 31) rfl)) (wl_in_0 _ (List.mem_of_getElem? (i := 32) rfl)) (wl_in_0 _ (List.mem_of_getElem? (i := 33) rfl)) (wl_in_0 _ (List.mem_of_getElem? (i := 8) rfl)) (wl_in_0 _ (List.mem_of_getElem? (i := 15) rfl))) rfl rfl rfl (by decide +kernel) ⟨Nat.le_of_ble_eq_true rfl, Nat.le_of_ble_eq_true rfl⟩) hK hDD hA0 hP hS 0 12 wm0 rfl rfl hl.1 (Nat.le_of_ble_eq_true rfl) dX12_asked_34 (fun A10 H locs hw11 hP hS => ?_)
        obtain ⟨_, hI, hf12, hw11⟩ := hw11
        have r_A10_0_8 : (0 : Int) ≤ (A10 0 8) ∧ (A10 0 8) ≤ 5 := hI 0 8
        exact J37_4 _ _ _ _ hI (fr.trans (fr.rf) hf12 rfl rfl) hP hS (lv_sub hl [0, 1] rfl)
      refine lv_icmp_ne (tgt := 28) hx hb dX12_asked_14 (by decide) (fun c2 => ?_) (fun c2 => ?_)
      · have c2 : ¬ (A 0 3) = 1 := mt (i_eq (rb r_A_0_3 (by decide) (by decide)) ⟨by decide, by decide⟩).mpr c2
        exact J28_3 _ _ _ hP hS (lv_sub hl [0, 1] rfl)
      · have c2 : (A 0 3) = 1 := (i_eq (rb r_A_0_3 (by decide) (by decide)) ⟨by decide, by decide⟩).mp c2
        refine lv_aload_n hx hb dX12_asked_17 rfl (lv_at hl 0 rfl) ?_
        refine lv_aload_n hx hb dX12_asked_18 rfl (lv_at hl 0 rfl) ?_
        refine va_get (D := (dC, dI)) (ci := 12) (v := .long (jI (A 0 7))) (C := RX12) (T := TX12) (N := 85) hx hb hts hiX12 hown hK hP 0 wm0 rfl 7 (by decide) (hts _ (List.mem_cons_of_mem _ (wl_in_0 _ (List.mem_of_getElem? (i := 26) rfl)))) (fun _ h9 => h9) rfl dX12_asked_19 ?_
        have r_A_0_7 : (-9223372036854775808 : Int) ≤ (A 0 7) ∧ (A 0 7) ≤ 9223372036854775807 := hI 0 7
        refine x_calli (As := [.long (jI (A 0 7))]) (rest := []) ⟨hx, hb, hml, hown, hts⟩ (mc_X12_isOwn l dC dI cB cI cJ cZ cQ q _ (A 0 7) hI r_A_0_7) (cwV 1 hts (goodV (wl_in_2 _ (List.mem_of_getElem? (i := 23) rfl)) (wl_in_2 _ (List.mem_of_getElem? (i := 24) rfl)) (wl_in_2 _ (List.mem_of_getElem? (i := 25) rfl)) (wl_in_0 _ (List.mem_of_getElem? (i := 8) rfl)) (wl_in_0 _ (List.mem_of_getElem? (i := 43) rfl))) rfl rfl rfl (by decide +kernel) ⟨Nat.le_of_ble_eq_true rfl, Nat.le_of_ble_eq_true rfl⟩) hK hDD hA0 hP hS 0 12 wm0 rfl rfl hl.1 (Nat.le_of_ble_eq_true rfl) dX12_asked_22 (fun z5 A6 H locs hw7 hP hS => ?_)
        obtain ⟨rfl, hw7⟩ := hw7
        refine lv_if_eq (tgt := 37) hx hb dX12_asked_25 (by decide) (fun c8 => ?_) (fun c8 => ?_)
        · have c8 : z5 = 0 := (i_eq0 (rb hw7 (by decide) (by decide))).mp c8
          exact J37_4 _ _ _ _ hI (fr.rf) hP hS (lv_sub hl [0, 1] rfl)
        · have c8 : ¬ z5 = 0 := mt (i_eq0 (rb hw7 (by decide) (by decide))).mpr c8
          exact J28_3 _ _ _ hP hS (lv_sub hl [0, 1] rfl)
    · have c1 : ¬ (A 0 8) ≤ 0 := mt (i_le0 (rb r_A_0_8 (by decide) (by decide))).mpr c1
      refine lv_iconst (v := iI 0) hx hb dX12_asked_7 (by decide +kernel) ?_
      exact RET 0 _ _ _ _ _ ⟨hI, fr.rf, by omega⟩ hP hS dX12_asked_8
  · have hl : lv_has ls 3 [(0, .ref (q 0)), (1, .int (iI 1))] := hl
    refine lv_aload_n hx hb dX12_asked_0 rfl (lv_at hl 0 rfl) ?_
    refine va_get (D := (dC, dI)) (ci := 12) (v := .int (iI (A 0 8))) (C := RX12) (T := TX12) (N := 85) hx hb hts hiX12 hown hK hP 0 wm0 rfl 8 (by decide) (hts _ (List.mem_cons_of_mem _ (wl_in_0 _ (List.mem_of_getElem? (i := 16) rfl)))) (fun _ h9 => h9) rfl dX12_asked_1 ?_
    have r_A_0_8 : (0 : Int) ≤ (A 0 8) ∧ (A 0 8) ≤ 5 := hI 0 8
    refine lv_if_le (tgt := 9) hx hb dX12_asked_4 (by decide) (fun c41 => ?_) (fun c41 => ?_)
    · have c41 : (A 0 8) ≤ 0 := (i_le0 (rb r_A_0_8 (by decide) (by decide))).mp c41
      refine lv_aload_n hx hb dX12_asked_9 rfl (lv_at hl 0 rfl) ?_
      refine va_get (D := (dC, dI)) (ci := 12) (v := .int (iI (A 0 3))) (C := RX12) (T := TX12) (N := 85) hx hb hts hiX12 hown hK hP 0 wm0 rfl 3 (by decide) (hts _ (List.mem_cons_of_mem _ (wl_in_0 _ (List.mem_of_getElem? (i := 24) rfl)))) (fun _ h9 => h9) rfl dX12_asked_10 ?_
      have r_A_0_3 : (0 : Int) ≤ (A 0 3) ∧ (A 0 3) ≤ 3 := hI 0 3
      refine lv_iconst (v := iI 1) hx hb dX12_asked_13 (by decide +kernel) ?_
      have J37_44 : ∀ (A54 : St) (H : Heap) (locs : List Loc) (ls : Array Slot), IM A54 → fr [] [8, 9] A A54 → va_P (dC, dI) vwCl (WM cI cJ cZ q A54) H → va_S AS s.heap H locs → lv_has ls 3 [(0, .ref (q 0)), (1, .int (iI 1))] → W p l e (headSpec ws_mc_X12_asked ({ frames := 2, cells := 0, slots := 0, locals := 48 } : Room)).room s m [.ref (q 0), .int (iI 1)].toArray below meth c H locs 0 0 Q (F0 m 37 ls []) := by
        intro A54 H locs ls hI hj53 hP hS hl
        refine lv_aload_n hx hb dX12_asked_37 rfl (lv_at hl 0 rfl) ?_
        refine va_get (D := (dC, dI)) (ci := 12) (v := .int (iI (A54 0 8))) (C := RX12) (T := TX12) (N := 85) hx hb hts hiX12 hown hK hP 0 wm0 rfl 8 (by decide) (hts _ (List.mem_cons_of_mem _ (wl_in_0 _ (List.mem_of_getElem? (i := 16) rfl)))) (fun _ h9 => h9) rfl dX12_asked_38 ?_
        have r_A54_0_8 : (0 : Int) ≤ (A54 0 8) ∧ (A54 0 8) ≤ 5 := hI 0 8
        have J57_56 : ∀ (z60 : Int) (H : Heap) (locs : List Loc) (ls : Array Slot), (-1 ≤ z60 ∧ z60 ≤ 9) → va_P (dC, dI) vwCl (WM cI cJ cZ q A54) H → va_S AS s.heap H locs → lv_has ls 3 [(0, .ref (q 0)), (1, .int (iI 1))] → W p l e (headSpec ws_mc_X12_asked ({ frames := 2, cells := 0, slots := 0, locals := 48 } : Room)).room s m [.ref (q 0), .int (iI 1)].toArray below meth c H locs 0 0 Q (F0 m 57 ls [.int (iI z60)]) := by
          intro z60 H locs ls f62 hP hS hl
          refine lv_istore_n (lv' := [(2, .int (iI z60)), (0, .ref (q 0)), (1, .int (iI 1))]) hx hb dX12_asked_57 rfl hl (by decide) rfl (fun ls hl => ?_)
          refine lv_aload_n hx hb dX12_asked_58 rfl (lv_at hl 1 rfl) ?_
          refine va_get (D := (dC, dI)) (ci := 12) (v := .int (iI (A54 0 8))) (C := RX12) (T := TX12) (N := 85) hx hb hts hiX12 hown hK hP 0 wm0 rfl 8 (by decide) (hts _ (List.mem_cons_of_mem _ (wl_in_0 _ (List.mem_of_getElem? (i := 16) rfl)))) (fun _ h9 => h9) rfl dX12_asked_59 ?_
          have J79_64 : ∀ (A70 : St) (H : Heap) (locs : List Loc) (ls : Array Slot), ((A70 0 8) = 0 → 0 ≤ z60) → IM A70 → fr [] [8, 9] A54 A70 → va_P (dC, dI) vwCl (WM cI cJ cZ q A70) H → va_S AS s.heap H locs → lv_has ls 3 [(2, .int (iI z60)), (0, .ref (q 0)), (1, .int (iI 1))] → W p l e (headSpec ws_mc_X12_asked ({ frames := 2, cells := 0, slots := 0, locals := 48 } : Room)).room s m [.ref (q 0), .int (iI 1)].toArray below meth c H locs 0 0 Q (F0 m 79 ls []) := by
            intro A70 H locs ls f71 hI hj69 hP hS hl
            refine lv_aload_n hx hb dX12_asked_79 rfl (lv_at hl 1 rfl) ?_
            refine va_get (D := (dC, dI)) (ci := 12) (v := .int (iI (A70 0 8))) (C := RX12) (T := TX12) (N := 85) hx hb hts hiX12 hown hK hP 0 wm0 rfl 8 (by decide) (hts _ (List.mem_cons_of_mem _ (wl_in_0 _ (List.mem_of_getElem? (i := 16) rfl)))) (fun _ h9 => h9) rfl dX12_asked_80 ?_
            have r_A70_0_8 : (0 : Int) ≤ (A70 0 8) ∧ (A70 0 8) ≤ 5 := hI 0 8
            have J90_73 : ∀ (A78 : St) (H : Heap) (locs : List Loc) (ls : Array Slot), ((A78 0 8) = 0 → 0 ≤ z60) → IM A78 → fr [] [3, 4, 5, 6, 7, 8, 9] A70 A78 → va_P (dC, dI) vwCl (WM cI cJ cZ q A78) H → va_S AS s.heap H locs → lv_has ls 3 [(2, .int (iI z60)), (0, .ref (q 0)), (1, .int (iI 1))] → W p l e (headSpec ws_mc_X12_asked ({ frames := 2, cells := 0, slots := 0, locals := 48 } : Room)).room s m [.ref (q 0), .int (iI 1)].toArray below meth c H locs 0 0 Q (F0 m 90 ls []) := by
              intro A78 H locs ls f79 hI hj77 hP hS hl
              refine lv_aload_n hx hb dX12_asked_90 rfl (lv_at hl 1 rfl) ?_
              refine va_get (D := (dC, dI)) (ci := 12) (v := .int (iI (A78 0 8))) (C := RX12) (T := TX12) (N := 85) hx hb hts hiX12 hown hK hP 0 wm0 rfl 8 (by decide) (hts _ (List.mem_cons_of_mem _ (wl_in_0 _ (List.mem_of_getElem? (i := 16) rfl)))) (fun _ h9 => h9) rfl dX12_asked_91 ?_
              have r_A78_0_8 : (0 : Int) ≤ (A78 0 8) ∧ (A78 0 8) ≤ 5 := hI 0 8
              refine lv_if_le (tgt := 101) hx hb dX12_asked_94 (by decide) (fun c80 => ?_) (fun c80 => ?_)
              · have c80 : (A78 0 8) ≤ 0 := (i_le0 (rb r_A78_0_8 (by decide) (by decide))).mp c80
                refine lv_iload_n hx hb dX12_asked_101 rfl (lv_at hl 0 rfl) ?_
                exact RET z60 _ _ _ _ _ ⟨hI, fr.trans (fr.trans (fr.trans (fr.rf) hj53 rfl rfl) hj69 rfl rfl) hj77 rfl rfl, by omega⟩ hP hS dX12_asked_102
              · have c80 : ¬ (A78 0 8) ≤ 0 := mt (i_le0 (rb r_A78_0_8 (by decide) (by decide))).mpr c80
                refine lv_iconst (v := iI 0) hx hb dX12_asked_97 (by decide +kernel) ?_
                refine lv_goto (tgt := 102) hx hb dX12_asked_98 (by decide) ?_
                exact RET 0 _ _ _ _ _ ⟨hI, fr.trans (fr.trans (fr.trans (fr.rf) hj53 rfl rfl) hj69 rfl rfl) hj77 rfl rfl, by omega⟩ hP hS dX12_asked_102
            refine lv_if_ne (tgt := 90) hx hb dX12_asked_83 (by decide) (fun c72 => ?_) (fun c72 => ?_)
            · have c72 : ¬ (A70 0 8) = 0 := mt (i_eq0 (rb r_A70_0_8 (by decide) (by decide))).mpr c72
              exact J90_73 _ _ _ _ (by omega) hI (fr.rf) hP hS (lv_sub hl [0, 1, 2] rfl)
            · have c72 : (A70 0 8) = 0 := (i_eq0 (rb r_A70_0_8 (by decide) (by decide))).mp c72
              refine lv_aload_n hx hb dX12_asked_86 rfl (lv_at hl 1 rfl) ?_
              refine x_callv (As := []) (rest := []) ⟨hx, hb, hml, hown, hts⟩ (mc_X12_ahead l dC dI cB cI cJ cZ cQ q _ hI) (cwV 0 hts (goodV (wl_in_0 _ (List.mem_of_getElem? (i := 40) rfl)) (wl_in_0 _ (List.mem_of_getElem? (i := 41) rfl)) (wl_in_0 _ (List.mem_of_getElem? (i := 42) rfl)) (wl_in_0 _ (List.mem_of_getElem? (i := 8) rfl)) (wl_in_0 _ (List.mem_of_getElem? (i := 20) rfl))) rfl rfl rfl (by decide +kernel) ⟨Nat.le_of_ble_eq_true rfl, Nat.le_of_ble_eq_true rfl⟩) hK hDD hA0 hP hS 0 12 wm0 rfl rfl hl.1 (Nat.le_of_ble_eq_true rfl) dX12_asked_87 (fun A74 H locs hw75 hP hS => ?_)
              obtain ⟨hI, hf76, hw75⟩ := hw75
              clear hw75
              have r_A74_0_8 : (0 : Int) ≤ (A74 0 8) ∧ (A74 0 8) ≤ 5 := hI 0 8
              exact J90_73 _ _ _ _ (by omega) hI (fr.trans (fr.rf) hf76 rfl rfl) hP hS (lv_sub hl [0, 1, 2] rfl)
          refine lv_if_ne (tgt := 79) hx hb dX12_asked_62 (by decide) (fun c63 => ?_) (fun c63 => ?_)
          · have c63 : ¬ (A54 0 8) = 0 := mt (i_eq0 (rb r_A54_0_8 (by decide) (by decide))).mpr c63
            exact J79_64 _ _ _ _ (by omega) hI (fr.rf) hP hS (lv_sub hl [0, 1, 2] rfl)
          · have c63 : (A54 0 8) = 0 := (i_eq0 (rb r_A54_0_8 (by decide) (by decide))).mp c63
            refine lv_iload_n hx hb dX12_asked_65 rfl (lv_at hl 0 rfl) ?_
            refine lv_iconst (v := iI (-1)) hx hb dX12_asked_66 (by decide +kernel) ?_
            refine lv_icmp_ne (tgt := 79) hx hb dX12_asked_67 (by decide) (fun c65 => ?_) (fun c65 => ?_)
            · have c65 : ¬ z60 = (-1) := mt (i_eq (rb f62 (by decide) (by decide)) ⟨by decide, by decide⟩).mpr c65
              exact J79_64 _ _ _ _ (by omega) hI (fr.rf) hP hS (lv_sub hl [0, 1, 2] rfl)
            · have c65 : z60 = (-1) := (i_eq (rb f62 (by decide) (by decide)) ⟨by decide, by decide⟩).mp c65
              refine lv_aload_n hx hb dX12_asked_70 rfl (lv_at hl 1 rfl) ?_
              refine lv_iconst (v := iI 3) hx hb dX12_asked_71 (by decide +kernel) ?_
              refine lv_aload_n hx hb dX12_asked_72 rfl (lv_at hl 1 rfl) ?_
              have e_A54_4 : A54 0 4 = (A 0 4) := (hj53.2 4 rfl)
              refine va_get (D := (dC, dI)) (ci := 12) (v := .int (iI (A54 0 4))) (C := RX12) (T := TX12) (N := 85) hx hb hts hiX12 hown hK hP 0 wm0 rfl 4 (by decide) (hts _ (List.mem_cons_of_mem _ (wl_in_0 _ (List.mem_of_getElem? (i := 23) rfl)))) (fun _ h9 => h9) rfl dX12_asked_73 ?_
              refine tp_i (y := iI (A 0 4)) (congrArg iI e_A54_4) ?_
              have r_A_0_4 : (0 : Int) ≤ (A 0 4) ∧ (A 0 4) ≤ 1600 := by rw [← e_A54_4]; exact hI 0 4
              refine x_callv (As := [.int (iI 3), .int (iI (A 0 4))]) (rest := []) ⟨hx, hb, hml, hown, hts⟩ (mc_X12_blame l dC dI cB cI cJ cZ cQ q _ 3 (A 0 4) hI ⟨by decide, by decide⟩ r_A_0_4) (cwV 2 hts (goodV (wl_in_0 _ (List.mem_of_getElem? (i := 31) rfl)) (wl_in_0 _ (List.mem_of_getElem? (i := 32) rfl)) (wl_in_0 _ (List.mem_of_getElem? (i := 33) rfl)) (wl_in_0 _ (List.mem_of_getElem? (i := 8) rfl)) (wl_in_0 _ (List.mem_of_getElem? (i := 15) rfl))) rfl rfl rfl (by decide +kernel) ⟨Nat.le_of_ble_eq_true rfl, Nat.le_of_ble_eq_true rfl⟩) hK hDD hA0 hP hS 0 12 wm0 rfl rfl hl.1 (Nat.le_of_ble_eq_true rfl) dX12_asked_76 (fun A66 H locs hw67 hP hS => ?_)
              obtain ⟨_, hI, hf68, hw67⟩ := hw67
              have r_A66_0_8 : (0 : Int) ≤ (A66 0 8) ∧ (A66 0 8) ≤ 5 := hI 0 8
              exact J79_64 _ _ _ _ (by omega) hI (fr.trans (fr.rf) hf68 rfl rfl) hP hS (lv_sub hl [0, 1, 2] rfl)
        refine lv_if_le (tgt := 48) hx hb dX12_asked_41 (by decide) (fun c55 => ?_) (fun c55 => ?_)
        · have c55 : (A54 0 8) ≤ 0 := (i_le0 (rb r_A54_0_8 (by decide) (by decide))).mp c55
          refine lv_aload_n hx hb dX12_asked_48 rfl (lv_at hl 0 rfl) ?_
          refine lv_iload_n hx hb dX12_asked_49 rfl (lv_at hl 1 rfl) ?_
          refine lv_aload_n hx hb dX12_asked_50 rfl (lv_at hl 0 rfl) ?_
          have e_A54_7 : A54 0 7 = (A 0 7) := (hj53.2 7 rfl)
          refine va_get (D := (dC, dI)) (ci := 12) (v := .long (jI (A54 0 7))) (C := RX12) (T := TX12) (N := 85) hx hb hts hiX12 hown hK hP 0 wm0 rfl 7 (by decide) (hts _ (List.mem_cons_of_mem _ (wl_in_0 _ (List.mem_of_getElem? (i := 26) rfl)))) (fun _ h9 => h9) rfl dX12_asked_51 ?_
          refine tp_l (y := jI (A 0 7)) (congrArg jI e_A54_7) ?_
          have r_A_0_7 : (-9223372036854775808 : Int) ≤ (A 0 7) ∧ (A 0 7) ≤ 9223372036854775807 := by rw [← e_A54_7]; exact hI 0 7
          refine x_calli (As := [.int (iI 1), .long (jI (A 0 7))]) (rest := []) ⟨hx, hb, hml, hown, hts⟩ (mc_X12_named l dC dI cB cI cJ cZ cQ q _ 1 (A 0 7) hI ⟨by decide, by decide⟩ r_A_0_7) (cwV 2 hts (goodV (wl_in_2 _ (List.mem_of_getElem? (i := 26) rfl)) (wl_in_2 _ (List.mem_of_getElem? (i := 27) rfl)) (wl_in_2 _ (List.mem_of_getElem? (i := 28) rfl)) (wl_in_0 _ (List.mem_of_getElem? (i := 8) rfl)) (wl_in_1 _ (List.mem_of_getElem? (i := 10) rfl))) rfl rfl rfl (by decide +kernel) ⟨Nat.le_of_ble_eq_true rfl, Nat.le_of_ble_eq_true rfl⟩) hK hDD hA0 hP hS 0 12 wm0 rfl rfl hl.1 (Nat.le_of_ble_eq_true rfl) dX12_asked_54 (fun z57 A58 H locs hw59 hP hS => ?_)
          obtain ⟨rfl, hw59⟩ := hw59
          have hw59 := hw59.2
          have hw59 : -1 ≤ z57 ∧ z57 ≤ 9 := ⟨hw59.1, hw59.2.1⟩
          exact J57_56 z57 _ _ _ (by omega) hP hS (lv_sub hl [0, 1] rfl)
        · have c55 : ¬ (A54 0 8) ≤ 0 := mt (i_le0 (rb r_A54_0_8 (by decide) (by decide))).mpr c55
          refine lv_iconst (v := iI 0) hx hb dX12_asked_44 (by decide +kernel) ?_
          refine lv_goto (tgt := 57) hx hb dX12_asked_45 (by decide) ?_
          exact J57_56 0 _ _ _ (by omega) hP hS (lv_sub hl [0, 1] rfl)
      have J28_43 : ∀ (H : Heap) (locs : List Loc) (ls : Array Slot), va_P (dC, dI) vwCl (WM cI cJ cZ q A) H → va_S AS s.heap H locs → lv_has ls 3 [(0, .ref (q 0)), (1, .int (iI 1))] → W p l e (headSpec ws_mc_X12_asked ({ frames := 2, cells := 0, slots := 0, locals := 48 } : Room)).room s m [.ref (q 0), .int (iI 1)].toArray below meth c H locs 0 0 Q (F0 m 28 ls []) := by
        intro H locs ls hP hS hl
        refine lv_aload_n hx hb dX12_asked_28 rfl (lv_at hl 0 rfl) ?_
        refine lv_iconst (v := iI 1) hx hb dX12_asked_29 (by decide +kernel) ?_
        refine lv_aload_n hx hb dX12_asked_30 rfl (lv_at hl 0 rfl) ?_
        refine va_get (D := (dC, dI)) (ci := 12) (v := .int (iI (A 0 4))) (C := RX12) (T := TX12) (N := 85) hx hb hts hiX12 hown hK hP 0 wm0 rfl 4 (by decide) (hts _ (List.mem_cons_of_mem _ (wl_in_0 _ (List.mem_of_getElem? (i := 23) rfl)))) (fun _ h9 => h9) rfl dX12_asked_31 ?_
        have r_A_0_4 : (0 : Int) ≤ (A 0 4) ∧ (A 0 4) ≤ 1600 := hI 0 4
        refine x_callv (As := [.int (iI 1), .int (iI (A 0 4))]) (rest := []) ⟨hx, hb, hml, hown, hts⟩ (mc_X12_blame l dC dI cB cI cJ cZ cQ q _ 1 (A 0 4) hI ⟨by decide, by decide⟩ r_A_0_4) (cwV 2 hts (goodV (wl_in_0 _ (List.mem_of_getElem? (i := 31) rfl)) (wl_in_0 _ (List.mem_of_getElem? (i := 32) rfl)) (wl_in_0 _ (List.mem_of_getElem? (i := 33) rfl)) (wl_in_0 _ (List.mem_of_getElem? (i := 8) rfl)) (wl_in_0 _ (List.mem_of_getElem? (i := 15) rfl))) rfl rfl rfl (by decide +kernel) ⟨Nat.le_of_ble_eq_true rfl, Nat.le_of_ble_eq_true rfl⟩) hK hDD hA0 hP hS 0 12 wm0 rfl rfl hl.1 (Nat.le_of_ble_eq_true rfl) dX12_asked_34 (fun A50 H locs hw51 hP hS => ?_)
        obtain ⟨_, hI, hf52, hw51⟩ := hw51
        have r_A50_0_8 : (0 : Int) ≤ (A50 0 8) ∧ (A50 0 8) ≤ 5 := hI 0 8
        exact J37_44 _ _ _ _ hI (fr.trans (fr.rf) hf52 rfl rfl) hP hS (lv_sub hl [0, 1] rfl)
      refine lv_icmp_ne (tgt := 28) hx hb dX12_asked_14 (by decide) (fun c42 => ?_) (fun c42 => ?_)
      · have c42 : ¬ (A 0 3) = 1 := mt (i_eq (rb r_A_0_3 (by decide) (by decide)) ⟨by decide, by decide⟩).mpr c42
        exact J28_43 _ _ _ hP hS (lv_sub hl [0, 1] rfl)
      · have c42 : (A 0 3) = 1 := (i_eq (rb r_A_0_3 (by decide) (by decide)) ⟨by decide, by decide⟩).mp c42
        refine lv_aload_n hx hb dX12_asked_17 rfl (lv_at hl 0 rfl) ?_
        refine lv_aload_n hx hb dX12_asked_18 rfl (lv_at hl 0 rfl) ?_
        refine va_get (D := (dC, dI)) (ci := 12) (v := .long (jI (A 0 7))) (C := RX12) (T := TX12) (N := 85) hx hb hts hiX12 hown hK hP 0 wm0 rfl 7 (by decide) (hts _ (List.mem_cons_of_mem _ (wl_in_0 _ (List.mem_of_getElem? (i := 26) rfl)))) (fun _ h9 => h9) rfl dX12_asked_19 ?_
        have r_A_0_7 : (-9223372036854775808 : Int) ≤ (A 0 7) ∧ (A 0 7) ≤ 9223372036854775807 := hI 0 7
        refine x_calli (As := [.long (jI (A 0 7))]) (rest := []) ⟨hx, hb, hml, hown, hts⟩ (mc_X12_isOwn l dC dI cB cI cJ cZ cQ q _ (A 0 7) hI r_A_0_7) (cwV 1 hts (goodV (wl_in_2 _ (List.mem_of_getElem? (i := 23) rfl)) (wl_in_2 _ (List.mem_of_getElem? (i := 24) rfl)) (wl_in_2 _ (List.mem_of_getElem? (i := 25) rfl)) (wl_in_0 _ (List.mem_of_getElem? (i := 8) rfl)) (wl_in_0 _ (List.mem_of_getElem? (i := 43) rfl))) rfl rfl rfl (by decide +kernel) ⟨Nat.le_of_ble_eq_true rfl, Nat.le_of_ble_eq_true rfl⟩) hK hDD hA0 hP hS 0 12 wm0 rfl rfl hl.1 (Nat.le_of_ble_eq_true rfl) dX12_asked_22 (fun z45 A46 H locs hw47 hP hS => ?_)
        obtain ⟨rfl, hw47⟩ := hw47
        refine lv_if_eq (tgt := 37) hx hb dX12_asked_25 (by decide) (fun c48 => ?_) (fun c48 => ?_)
        · have c48 : z45 = 0 := (i_eq0 (rb hw47 (by decide) (by decide))).mp c48
          exact J37_44 _ _ _ _ hI (fr.rf) hP hS (lv_sub hl [0, 1] rfl)
        · have c48 : ¬ z45 = 0 := mt (i_eq0 (rb hw47 (by decide) (by decide))).mpr c48
          exact J28_43 _ _ _ hP hS (lv_sub hl [0, 1] rfl)
    · have c41 : ¬ (A 0 8) ≤ 0 := mt (i_le0 (rb r_A_0_8 (by decide) (by decide))).mpr c41
      refine lv_iconst (v := iI 0) hx hb dX12_asked_7 (by decide +kernel) ?_
      exact RET 0 _ _ _ _ _ ⟨hI, fr.rf, by omega⟩ hP hS dX12_asked_8
  · have hl : lv_has ls 3 [(0, .ref (q 0)), (1, .int (iI 2))] := hl
    refine lv_aload_n hx hb dX12_asked_0 rfl (lv_at hl 0 rfl) ?_
    refine va_get (D := (dC, dI)) (ci := 12) (v := .int (iI (A 0 8))) (C := RX12) (T := TX12) (N := 85) hx hb hts hiX12 hown hK hP 0 wm0 rfl 8 (by decide) (hts _ (List.mem_cons_of_mem _ (wl_in_0 _ (List.mem_of_getElem? (i := 16) rfl)))) (fun _ h9 => h9) rfl dX12_asked_1 ?_
    have r_A_0_8 : (0 : Int) ≤ (A 0 8) ∧ (A 0 8) ≤ 5 := hI 0 8
    refine lv_if_le (tgt := 9) hx hb dX12_asked_4 (by decide) (fun c81 => ?_) (fun c81 => ?_)
    · have c81 : (A 0 8) ≤ 0 := (i_le0 (rb r_A_0_8 (by decide) (by decide))).mp c81
      refine lv_aload_n hx hb dX12_asked_9 rfl (lv_at hl 0 rfl) ?_
      refine va_get (D := (dC, dI)) (ci := 12) (v := .int (iI (A 0 3))) (C := RX12) (T := TX12) (N := 85) hx hb hts hiX12 hown hK hP 0 wm0 rfl 3 (by decide) (hts _ (List.mem_cons_of_mem _ (wl_in_0 _ (List.mem_of_getElem? (i := 24) rfl)))) (fun _ h9 => h9) rfl dX12_asked_10 ?_
      have r_A_0_3 : (0 : Int) ≤ (A 0 3) ∧ (A 0 3) ≤ 3 := hI 0 3
      refine lv_iconst (v := iI 1) hx hb dX12_asked_13 (by decide +kernel) ?_
      have J37_84 : ∀ (A94 : St) (H : Heap) (locs : List Loc) (ls : Array Slot), IM A94 → fr [] [8, 9] A A94 → va_P (dC, dI) vwCl (WM cI cJ cZ q A94) H → va_S AS s.heap H locs → lv_has ls 3 [(0, .ref (q 0)), (1, .int (iI 2))] → W p l e (headSpec ws_mc_X12_asked ({ frames := 2, cells := 0, slots := 0, locals := 48 } : Room)).room s m [.ref (q 0), .int (iI 2)].toArray below meth c H locs 0 0 Q (F0 m 37 ls []) := by
        intro A94 H locs ls hI hj93 hP hS hl
        refine lv_aload_n hx hb dX12_asked_37 rfl (lv_at hl 0 rfl) ?_
        refine va_get (D := (dC, dI)) (ci := 12) (v := .int (iI (A94 0 8))) (C := RX12) (T := TX12) (N := 85) hx hb hts hiX12 hown hK hP 0 wm0 rfl 8 (by decide) (hts _ (List.mem_cons_of_mem _ (wl_in_0 _ (List.mem_of_getElem? (i := 16) rfl)))) (fun _ h9 => h9) rfl dX12_asked_38 ?_
        have r_A94_0_8 : (0 : Int) ≤ (A94 0 8) ∧ (A94 0 8) ≤ 5 := hI 0 8
        have J57_96 : ∀ (z100 : Int) (H : Heap) (locs : List Loc) (ls : Array Slot), (-1 ≤ z100 ∧ z100 ≤ 3) → va_P (dC, dI) vwCl (WM cI cJ cZ q A94) H → va_S AS s.heap H locs → lv_has ls 3 [(0, .ref (q 0)), (1, .int (iI 2))] → W p l e (headSpec ws_mc_X12_asked ({ frames := 2, cells := 0, slots := 0, locals := 48 } : Room)).room s m [.ref (q 0), .int (iI 2)].toArray below meth c H locs 0 0 Q (F0 m 57 ls [.int (iI z100)]) := by
          intro z100 H locs ls f102 hP hS hl
          refine lv_istore_n (lv' := [(2, .int (iI z100)), (0, .ref (q 0)), (1, .int (iI 2))]) hx hb dX12_asked_57 rfl hl (by decide) rfl (fun ls hl => ?_)
          refine lv_aload_n hx hb dX12_asked_58 rfl (lv_at hl 1 rfl) ?_
          refine va_get (D := (dC, dI)) (ci := 12) (v := .int (iI (A94 0 8))) (C := RX12) (T := TX12) (N := 85) hx hb hts hiX12 hown hK hP 0 wm0 rfl 8 (by decide) (hts _ (List.mem_cons_of_mem _ (wl_in_0 _ (List.mem_of_getElem? (i := 16) rfl)))) (fun _ h9 => h9) rfl dX12_asked_59 ?_
          have J79_104 : ∀ (A110 : St) (H : Heap) (locs : List Loc) (ls : Array Slot), ((A110 0 8) = 0 → 0 ≤ z100) → IM A110 → fr [] [8, 9] A94 A110 → va_P (dC, dI) vwCl (WM cI cJ cZ q A110) H → va_S AS s.heap H locs → lv_has ls 3 [(2, .int (iI z100)), (0, .ref (q 0)), (1, .int (iI 2))] → W p l e (headSpec ws_mc_X12_asked ({ frames := 2, cells := 0, slots := 0, locals := 48 } : Room)).room s m [.ref (q 0), .int (iI 2)].toArray below meth c H locs 0 0 Q (F0 m 79 ls []) := by
            intro A110 H locs ls f111 hI hj109 hP hS hl
            refine lv_aload_n hx hb dX12_asked_79 rfl (lv_at hl 1 rfl) ?_
            refine va_get (D := (dC, dI)) (ci := 12) (v := .int (iI (A110 0 8))) (C := RX12) (T := TX12) (N := 85) hx hb hts hiX12 hown hK hP 0 wm0 rfl 8 (by decide) (hts _ (List.mem_cons_of_mem _ (wl_in_0 _ (List.mem_of_getElem? (i := 16) rfl)))) (fun _ h9 => h9) rfl dX12_asked_80 ?_
            have r_A110_0_8 : (0 : Int) ≤ (A110 0 8) ∧ (A110 0 8) ≤ 5 := hI 0 8
            have J90_113 : ∀ (A118 : St) (H : Heap) (locs : List Loc) (ls : Array Slot), ((A118 0 8) = 0 → 0 ≤ z100) → IM A118 → fr [] [3, 4, 5, 6, 7, 8, 9] A110 A118 → va_P (dC, dI) vwCl (WM cI cJ cZ q A118) H → va_S AS s.heap H locs → lv_has ls 3 [(2, .int (iI z100)), (0, .ref (q 0)), (1, .int (iI 2))] → W p l e (headSpec ws_mc_X12_asked ({ frames := 2, cells := 0, slots := 0, locals := 48 } : Room)).room s m [.ref (q 0), .int (iI 2)].toArray below meth c H locs 0 0 Q (F0 m 90 ls []) := by
              intro A118 H locs ls f119 hI hj117 hP hS hl
              refine lv_aload_n hx hb dX12_asked_90 rfl (lv_at hl 1 rfl) ?_
              refine va_get (D := (dC, dI)) (ci := 12) (v := .int (iI (A118 0 8))) (C := RX12) (T := TX12) (N := 85) hx hb hts hiX12 hown hK hP 0 wm0 rfl 8 (by decide) (hts _ (List.mem_cons_of_mem _ (wl_in_0 _ (List.mem_of_getElem? (i := 16) rfl)))) (fun _ h9 => h9) rfl dX12_asked_91 ?_
              have r_A118_0_8 : (0 : Int) ≤ (A118 0 8) ∧ (A118 0 8) ≤ 5 := hI 0 8
              refine lv_if_le (tgt := 101) hx hb dX12_asked_94 (by decide) (fun c120 => ?_) (fun c120 => ?_)
              · have c120 : (A118 0 8) ≤ 0 := (i_le0 (rb r_A118_0_8 (by decide) (by decide))).mp c120
                refine lv_iload_n hx hb dX12_asked_101 rfl (lv_at hl 0 rfl) ?_
                exact RET z100 _ _ _ _ _ ⟨hI, fr.trans (fr.trans (fr.trans (fr.rf) hj93 rfl rfl) hj109 rfl rfl) hj117 rfl rfl, by omega⟩ hP hS dX12_asked_102
              · have c120 : ¬ (A118 0 8) ≤ 0 := mt (i_le0 (rb r_A118_0_8 (by decide) (by decide))).mpr c120
                refine lv_iconst (v := iI 0) hx hb dX12_asked_97 (by decide +kernel) ?_
                refine lv_goto (tgt := 102) hx hb dX12_asked_98 (by decide) ?_
                exact RET 0 _ _ _ _ _ ⟨hI, fr.trans (fr.trans (fr.trans (fr.rf) hj93 rfl rfl) hj109 rfl rfl) hj117 rfl rfl, by omega⟩ hP hS dX12_asked_102
            refine lv_if_ne (tgt := 90) hx hb dX12_asked_83 (by decide) (fun c112 => ?_) (fun c112 => ?_)
            · have c112 : ¬ (A110 0 8) = 0 := mt (i_eq0 (rb r_A110_0_8 (by decide) (by decide))).mpr c112
              exact J90_113 _ _ _ _ (by omega) hI (fr.rf) hP hS (lv_sub hl [0, 1, 2] rfl)
            · have c112 : (A110 0 8) = 0 := (i_eq0 (rb r_A110_0_8 (by decide) (by decide))).mp c112
              refine lv_aload_n hx hb dX12_asked_86 rfl (lv_at hl 1 rfl) ?_
              refine x_callv (As := []) (rest := []) ⟨hx, hb, hml, hown, hts⟩ (mc_X12_ahead l dC dI cB cI cJ cZ cQ q _ hI) (cwV 0 hts (goodV (wl_in_0 _ (List.mem_of_getElem? (i := 40) rfl)) (wl_in_0 _ (List.mem_of_getElem? (i := 41) rfl)) (wl_in_0 _ (List.mem_of_getElem? (i := 42) rfl)) (wl_in_0 _ (List.mem_of_getElem? (i := 8) rfl)) (wl_in_0 _ (List.mem_of_getElem? (i := 20) rfl))) rfl rfl rfl (by decide +kernel) ⟨Nat.le_of_ble_eq_true rfl, Nat.le_of_ble_eq_true rfl⟩) hK hDD hA0 hP hS 0 12 wm0 rfl rfl hl.1 (Nat.le_of_ble_eq_true rfl) dX12_asked_87 (fun A114 H locs hw115 hP hS => ?_)
              obtain ⟨hI, hf116, hw115⟩ := hw115
              clear hw115
              have r_A114_0_8 : (0 : Int) ≤ (A114 0 8) ∧ (A114 0 8) ≤ 5 := hI 0 8
              exact J90_113 _ _ _ _ (by omega) hI (fr.trans (fr.rf) hf116 rfl rfl) hP hS (lv_sub hl [0, 1, 2] rfl)
          refine lv_if_ne (tgt := 79) hx hb dX12_asked_62 (by decide) (fun c103 => ?_) (fun c103 => ?_)
          · have c103 : ¬ (A94 0 8) = 0 := mt (i_eq0 (rb r_A94_0_8 (by decide) (by decide))).mpr c103
            exact J79_104 _ _ _ _ (by omega) hI (fr.rf) hP hS (lv_sub hl [0, 1, 2] rfl)
          · have c103 : (A94 0 8) = 0 := (i_eq0 (rb r_A94_0_8 (by decide) (by decide))).mp c103
            refine lv_iload_n hx hb dX12_asked_65 rfl (lv_at hl 0 rfl) ?_
            refine lv_iconst (v := iI (-1)) hx hb dX12_asked_66 (by decide +kernel) ?_
            refine lv_icmp_ne (tgt := 79) hx hb dX12_asked_67 (by decide) (fun c105 => ?_) (fun c105 => ?_)
            · have c105 : ¬ z100 = (-1) := mt (i_eq (rb f102 (by decide) (by decide)) ⟨by decide, by decide⟩).mpr c105
              exact J79_104 _ _ _ _ (by omega) hI (fr.rf) hP hS (lv_sub hl [0, 1, 2] rfl)
            · have c105 : z100 = (-1) := (i_eq (rb f102 (by decide) (by decide)) ⟨by decide, by decide⟩).mp c105
              refine lv_aload_n hx hb dX12_asked_70 rfl (lv_at hl 1 rfl) ?_
              refine lv_iconst (v := iI 3) hx hb dX12_asked_71 (by decide +kernel) ?_
              refine lv_aload_n hx hb dX12_asked_72 rfl (lv_at hl 1 rfl) ?_
              have e_A94_4 : A94 0 4 = (A 0 4) := (hj93.2 4 rfl)
              refine va_get (D := (dC, dI)) (ci := 12) (v := .int (iI (A94 0 4))) (C := RX12) (T := TX12) (N := 85) hx hb hts hiX12 hown hK hP 0 wm0 rfl 4 (by decide) (hts _ (List.mem_cons_of_mem _ (wl_in_0 _ (List.mem_of_getElem? (i := 23) rfl)))) (fun _ h9 => h9) rfl dX12_asked_73 ?_
              refine tp_i (y := iI (A 0 4)) (congrArg iI e_A94_4) ?_
              have r_A_0_4 : (0 : Int) ≤ (A 0 4) ∧ (A 0 4) ≤ 1600 := by rw [← e_A94_4]; exact hI 0 4
              refine x_callv (As := [.int (iI 3), .int (iI (A 0 4))]) (rest := []) ⟨hx, hb, hml, hown, hts⟩ (mc_X12_blame l dC dI cB cI cJ cZ cQ q _ 3 (A 0 4) hI ⟨by decide, by decide⟩ r_A_0_4) (cwV 2 hts (goodV (wl_in_0 _ (List.mem_of_getElem? (i := 31) rfl)) (wl_in_0 _ (List.mem_of_getElem? (i := 32) rfl)) (wl_in_0 _ (List.mem_of_getElem? (i := 33) rfl)) (wl_in_0 _ (List.mem_of_getElem? (i := 8) rfl)) (wl_in_0 _ (List.mem_of_getElem? (i := 15) rfl))) rfl rfl rfl (by decide +kernel) ⟨Nat.le_of_ble_eq_true rfl, Nat.le_of_ble_eq_true rfl⟩) hK hDD hA0 hP hS 0 12 wm0 rfl rfl hl.1 (Nat.le_of_ble_eq_true rfl) dX12_asked_76 (fun A106 H locs hw107 hP hS => ?_)
              obtain ⟨_, hI, hf108, hw107⟩ := hw107
              have r_A106_0_8 : (0 : Int) ≤ (A106 0 8) ∧ (A106 0 8) ≤ 5 := hI 0 8
              exact J79_104 _ _ _ _ (by omega) hI (fr.trans (fr.rf) hf108 rfl rfl) hP hS (lv_sub hl [0, 1, 2] rfl)
        refine lv_if_le (tgt := 48) hx hb dX12_asked_41 (by decide) (fun c95 => ?_) (fun c95 => ?_)
        · have c95 : (A94 0 8) ≤ 0 := (i_le0 (rb r_A94_0_8 (by decide) (by decide))).mp c95
          refine lv_aload_n hx hb dX12_asked_48 rfl (lv_at hl 0 rfl) ?_
          refine lv_iload_n hx hb dX12_asked_49 rfl (lv_at hl 1 rfl) ?_
          refine lv_aload_n hx hb dX12_asked_50 rfl (lv_at hl 0 rfl) ?_
          have e_A94_7 : A94 0 7 = (A 0 7) := (hj93.2 7 rfl)
          refine va_get (D := (dC, dI)) (ci := 12) (v := .long (jI (A94 0 7))) (C := RX12) (T := TX12) (N := 85) hx hb hts hiX12 hown hK hP 0 wm0 rfl 7 (by decide) (hts _ (List.mem_cons_of_mem _ (wl_in_0 _ (List.mem_of_getElem? (i := 26) rfl)))) (fun _ h9 => h9) rfl dX12_asked_51 ?_
          refine tp_l (y := jI (A 0 7)) (congrArg jI e_A94_7) ?_
          have r_A_0_7 : (-9223372036854775808 : Int) ≤ (A 0 7) ∧ (A 0 7) ≤ 9223372036854775807 := by rw [← e_A94_7]; exact hI 0 7
          refine x_calli (As := [.int (iI 2), .long (jI (A 0 7))]) (rest := []) ⟨hx, hb, hml, hown, hts⟩ (mc_X12_named l dC dI cB cI cJ cZ cQ q _ 2 (A 0 7) hI ⟨by decide, by decide⟩ r_A_0_7) (cwV 2 hts (goodV (wl_in_2 _ (List.mem_of_getElem? (i := 26) rfl)) (wl_in_2 _ (List.mem_of_getElem? (i := 27) rfl)) (wl_in_2 _ (List.mem_of_getElem? (i := 28) rfl)) (wl_in_0 _ (List.mem_of_getElem? (i := 8) rfl)) (wl_in_1 _ (List.mem_of_getElem? (i := 10) rfl))) rfl rfl rfl (by decide +kernel) ⟨Nat.le_of_ble_eq_true rfl, Nat.le_of_ble_eq_true rfl⟩) hK hDD hA0 hP hS 0 12 wm0 rfl rfl hl.1 (Nat.le_of_ble_eq_true rfl) dX12_asked_54 (fun z97 A98 H locs hw99 hP hS => ?_)
          obtain ⟨rfl, hw99⟩ := hw99
          have hw99 := hw99.2
          have hw99 : -1 ≤ z97 ∧ z97 ≤ 3 := ⟨hw99.1, hw99.2.2.2.1 rfl⟩
          exact J57_96 z97 _ _ _ (by omega) hP hS (lv_sub hl [0, 1] rfl)
        · have c95 : ¬ (A94 0 8) ≤ 0 := mt (i_le0 (rb r_A94_0_8 (by decide) (by decide))).mpr c95
          refine lv_iconst (v := iI 0) hx hb dX12_asked_44 (by decide +kernel) ?_
          refine lv_goto (tgt := 57) hx hb dX12_asked_45 (by decide) ?_
          exact J57_96 0 _ _ _ (by omega) hP hS (lv_sub hl [0, 1] rfl)
      have J28_83 : ∀ (H : Heap) (locs : List Loc) (ls : Array Slot), va_P (dC, dI) vwCl (WM cI cJ cZ q A) H → va_S AS s.heap H locs → lv_has ls 3 [(0, .ref (q 0)), (1, .int (iI 2))] → W p l e (headSpec ws_mc_X12_asked ({ frames := 2, cells := 0, slots := 0, locals := 48 } : Room)).room s m [.ref (q 0), .int (iI 2)].toArray below meth c H locs 0 0 Q (F0 m 28 ls []) := by
        intro H locs ls hP hS hl
        refine lv_aload_n hx hb dX12_asked_28 rfl (lv_at hl 0 rfl) ?_
        refine lv_iconst (v := iI 1) hx hb dX12_asked_29 (by decide +kernel) ?_
        refine lv_aload_n hx hb dX12_asked_30 rfl (lv_at hl 0 rfl) ?_
        refine va_get (D := (dC, dI)) (ci := 12) (v := .int (iI (A 0 4))) (C := RX12) (T := TX12) (N := 85) hx hb hts hiX12 hown hK hP 0 wm0 rfl 4 (by decide) (hts _ (List.mem_cons_of_mem _ (wl_in_0 _ (List.mem_of_getElem? (i := 23) rfl)))) (fun _ h9 => h9) rfl dX12_asked_31 ?_
        have r_A_0_4 : (0 : Int) ≤ (A 0 4) ∧ (A 0 4) ≤ 1600 := hI 0 4
        refine x_callv (As := [.int (iI 1), .int (iI (A 0 4))]) (rest := []) ⟨hx, hb, hml, hown, hts⟩ (mc_X12_blame l dC dI cB cI cJ cZ cQ q _ 1 (A 0 4) hI ⟨by decide, by decide⟩ r_A_0_4) (cwV 2 hts (goodV (wl_in_0 _ (List.mem_of_getElem? (i := 31) rfl)) (wl_in_0 _ (List.mem_of_getElem? (i := 32) rfl)) (wl_in_0 _ (List.mem_of_getElem? (i := 33) rfl)) (wl_in_0 _ (List.mem_of_getElem? (i := 8) rfl)) (wl_in_0 _ (List.mem_of_getElem? (i := 15) rfl))) rfl rfl rfl (by decide +kernel) ⟨Nat.le_of_ble_eq_true rfl, Nat.le_of_ble_eq_true rfl⟩) hK hDD hA0 hP hS 0 12 wm0 rfl rfl hl.1 (Nat.le_of_ble_eq_true rfl) dX12_asked_34 (fun A90 H locs hw91 hP hS => ?_)
        obtain ⟨_, hI, hf92, hw91⟩ := hw91
        have r_A90_0_8 : (0 : Int) ≤ (A90 0 8) ∧ (A90 0 8) ≤ 5 := hI 0 8
        exact J37_84 _ _ _ _ hI (fr.trans (fr.rf) hf92 rfl rfl) hP hS (lv_sub hl [0, 1] rfl)
      refine lv_icmp_ne (tgt := 28) hx hb dX12_asked_14 (by decide) (fun c82 => ?_) (fun c82 => ?_)
      · have c82 : ¬ (A 0 3) = 1 := mt (i_eq (rb r_A_0_3 (by decide) (by decide)) ⟨by decide, by decide⟩).mpr c82
        exact J28_83 _ _ _ hP hS (lv_sub hl [0, 1] rfl)
      · have c82 : (A 0 3) = 1 := (i_eq (rb r_A_0_3 (by decide) (by decide)) ⟨by decide, by decide⟩).mp c82
        refine lv_aload_n hx hb dX12_asked_17 rfl (lv_at hl 0 rfl) ?_
        refine lv_aload_n hx hb dX12_asked_18 rfl (lv_at hl 0 rfl) ?_
        refine va_get (D := (dC, dI)) (ci := 12) (v := .long (jI (A 0 7))) (C := RX12) (T := TX12) (N := 85) hx hb hts hiX12 hown hK hP 0 wm0 rfl 7 (by decide) (hts _ (List.mem_cons_of_mem _ (wl_in_0 _ (List.mem_of_getElem? (i := 26) rfl)))) (fun _ h9 => h9) rfl dX12_asked_19 ?_
        have r_A_0_7 : (-9223372036854775808 : Int) ≤ (A 0 7) ∧ (A 0 7) ≤ 9223372036854775807 := hI 0 7
        refine x_calli (As := [.long (jI (A 0 7))]) (rest := []) ⟨hx, hb, hml, hown, hts⟩ (mc_X12_isOwn l dC dI cB cI cJ cZ cQ q _ (A 0 7) hI r_A_0_7) (cwV 1 hts (goodV (wl_in_2 _ (List.mem_of_getElem? (i := 23) rfl)) (wl_in_2 _ (List.mem_of_getElem? (i := 24) rfl)) (wl_in_2 _ (List.mem_of_getElem? (i := 25) rfl)) (wl_in_0 _ (List.mem_of_getElem? (i := 8) rfl)) (wl_in_0 _ (List.mem_of_getElem? (i := 43) rfl))) rfl rfl rfl (by decide +kernel) ⟨Nat.le_of_ble_eq_true rfl, Nat.le_of_ble_eq_true rfl⟩) hK hDD hA0 hP hS 0 12 wm0 rfl rfl hl.1 (Nat.le_of_ble_eq_true rfl) dX12_asked_22 (fun z85 A86 H locs hw87 hP hS => ?_)
        obtain ⟨rfl, hw87⟩ := hw87
        refine lv_if_eq (tgt := 37) hx hb dX12_asked_25 (by decide) (fun c88 => ?_) (fun c88 => ?_)
        · have c88 : z85 = 0 := (i_eq0 (rb hw87 (by decide) (by decide))).mp c88
          exact J37_84 _ _ _ _ hI (fr.rf) hP hS (lv_sub hl [0, 1] rfl)
        · have c88 : ¬ z85 = 0 := mt (i_eq0 (rb hw87 (by decide) (by decide))).mpr c88
          exact J28_83 _ _ _ hP hS (lv_sub hl [0, 1] rfl)
    · have c81 : ¬ (A 0 8) ≤ 0 := mt (i_le0 (rb r_A_0_8 (by decide) (by decide))).mpr c81
      refine lv_iconst (v := iI 0) hx hb dX12_asked_7 (by decide +kernel) ?_
      exact RET 0 _ _ _ _ _ ⟨hI, fr.rf, by omega⟩ hP hS dX12_asked_8
  · have hl : lv_has ls 3 [(0, .ref (q 0)), (1, .int (iI 3))] := hl
    refine lv_aload_n hx hb dX12_asked_0 rfl (lv_at hl 0 rfl) ?_
    refine va_get (D := (dC, dI)) (ci := 12) (v := .int (iI (A 0 8))) (C := RX12) (T := TX12) (N := 85) hx hb hts hiX12 hown hK hP 0 wm0 rfl 8 (by decide) (hts _ (List.mem_cons_of_mem _ (wl_in_0 _ (List.mem_of_getElem? (i := 16) rfl)))) (fun _ h9 => h9) rfl dX12_asked_1 ?_
    have r_A_0_8 : (0 : Int) ≤ (A 0 8) ∧ (A 0 8) ≤ 5 := hI 0 8
    refine lv_if_le (tgt := 9) hx hb dX12_asked_4 (by decide) (fun c121 => ?_) (fun c121 => ?_)
    · have c121 : (A 0 8) ≤ 0 := (i_le0 (rb r_A_0_8 (by decide) (by decide))).mp c121
      refine lv_aload_n hx hb dX12_asked_9 rfl (lv_at hl 0 rfl) ?_
      refine va_get (D := (dC, dI)) (ci := 12) (v := .int (iI (A 0 3))) (C := RX12) (T := TX12) (N := 85) hx hb hts hiX12 hown hK hP 0 wm0 rfl 3 (by decide) (hts _ (List.mem_cons_of_mem _ (wl_in_0 _ (List.mem_of_getElem? (i := 24) rfl)))) (fun _ h9 => h9) rfl dX12_asked_10 ?_
      have r_A_0_3 : (0 : Int) ≤ (A 0 3) ∧ (A 0 3) ≤ 3 := hI 0 3
      refine lv_iconst (v := iI 1) hx hb dX12_asked_13 (by decide +kernel) ?_
      have J37_124 : ∀ (A134 : St) (H : Heap) (locs : List Loc) (ls : Array Slot), IM A134 → fr [] [8, 9] A A134 → va_P (dC, dI) vwCl (WM cI cJ cZ q A134) H → va_S AS s.heap H locs → lv_has ls 3 [(0, .ref (q 0)), (1, .int (iI 3))] → W p l e (headSpec ws_mc_X12_asked ({ frames := 2, cells := 0, slots := 0, locals := 48 } : Room)).room s m [.ref (q 0), .int (iI 3)].toArray below meth c H locs 0 0 Q (F0 m 37 ls []) := by
        intro A134 H locs ls hI hj133 hP hS hl
        refine lv_aload_n hx hb dX12_asked_37 rfl (lv_at hl 0 rfl) ?_
        refine va_get (D := (dC, dI)) (ci := 12) (v := .int (iI (A134 0 8))) (C := RX12) (T := TX12) (N := 85) hx hb hts hiX12 hown hK hP 0 wm0 rfl 8 (by decide) (hts _ (List.mem_cons_of_mem _ (wl_in_0 _ (List.mem_of_getElem? (i := 16) rfl)))) (fun _ h9 => h9) rfl dX12_asked_38 ?_
        have r_A134_0_8 : (0 : Int) ≤ (A134 0 8) ∧ (A134 0 8) ≤ 5 := hI 0 8
        have J57_136 : ∀ (z140 : Int) (H : Heap) (locs : List Loc) (ls : Array Slot), (-1 ≤ z140 ∧ z140 ≤ 2) → va_P (dC, dI) vwCl (WM cI cJ cZ q A134) H → va_S AS s.heap H locs → lv_has ls 3 [(0, .ref (q 0)), (1, .int (iI 3))] → W p l e (headSpec ws_mc_X12_asked ({ frames := 2, cells := 0, slots := 0, locals := 48 } : Room)).room s m [.ref (q 0), .int (iI 3)].toArray below meth c H locs 0 0 Q (F0 m 57 ls [.int (iI z140)]) := by
          intro z140 H locs ls f142 hP hS hl
          refine lv_istore_n (lv' := [(2, .int (iI z140)), (0, .ref (q 0)), (1, .int (iI 3))]) hx hb dX12_asked_57 rfl hl (by decide) rfl (fun ls hl => ?_)
          refine lv_aload_n hx hb dX12_asked_58 rfl (lv_at hl 1 rfl) ?_
          refine va_get (D := (dC, dI)) (ci := 12) (v := .int (iI (A134 0 8))) (C := RX12) (T := TX12) (N := 85) hx hb hts hiX12 hown hK hP 0 wm0 rfl 8 (by decide) (hts _ (List.mem_cons_of_mem _ (wl_in_0 _ (List.mem_of_getElem? (i := 16) rfl)))) (fun _ h9 => h9) rfl dX12_asked_59 ?_
          have J79_144 : ∀ (A150 : St) (H : Heap) (locs : List Loc) (ls : Array Slot), ((A150 0 8) = 0 → 0 ≤ z140) → IM A150 → fr [] [8, 9] A134 A150 → va_P (dC, dI) vwCl (WM cI cJ cZ q A150) H → va_S AS s.heap H locs → lv_has ls 3 [(2, .int (iI z140)), (0, .ref (q 0)), (1, .int (iI 3))] → W p l e (headSpec ws_mc_X12_asked ({ frames := 2, cells := 0, slots := 0, locals := 48 } : Room)).room s m [.ref (q 0), .int (iI 3)].toArray below meth c H locs 0 0 Q (F0 m 79 ls []) := by
            intro A150 H locs ls f151 hI hj149 hP hS hl
            refine lv_aload_n hx hb dX12_asked_79 rfl (lv_at hl 1 rfl) ?_
            refine va_get (D := (dC, dI)) (ci := 12) (v := .int (iI (A150 0 8))) (C := RX12) (T := TX12) (N := 85) hx hb hts hiX12 hown hK hP 0 wm0 rfl 8 (by decide) (hts _ (List.mem_cons_of_mem _ (wl_in_0 _ (List.mem_of_getElem? (i := 16) rfl)))) (fun _ h9 => h9) rfl dX12_asked_80 ?_
            have r_A150_0_8 : (0 : Int) ≤ (A150 0 8) ∧ (A150 0 8) ≤ 5 := hI 0 8
            have J90_153 : ∀ (A158 : St) (H : Heap) (locs : List Loc) (ls : Array Slot), ((A158 0 8) = 0 → 0 ≤ z140) → IM A158 → fr [] [3, 4, 5, 6, 7, 8, 9] A150 A158 → va_P (dC, dI) vwCl (WM cI cJ cZ q A158) H → va_S AS s.heap H locs → lv_has ls 3 [(2, .int (iI z140)), (0, .ref (q 0)), (1, .int (iI 3))] → W p l e (headSpec ws_mc_X12_asked ({ frames := 2, cells := 0, slots := 0, locals := 48 } : Room)).room s m [.ref (q 0), .int (iI 3)].toArray below meth c H locs 0 0 Q (F0 m 90 ls []) := by
              intro A158 H locs ls f159 hI hj157 hP hS hl
              refine lv_aload_n hx hb dX12_asked_90 rfl (lv_at hl 1 rfl) ?_
              refine va_get (D := (dC, dI)) (ci := 12) (v := .int (iI (A158 0 8))) (C := RX12) (T := TX12) (N := 85) hx hb hts hiX12 hown hK hP 0 wm0 rfl 8 (by decide) (hts _ (List.mem_cons_of_mem _ (wl_in_0 _ (List.mem_of_getElem? (i := 16) rfl)))) (fun _ h9 => h9) rfl dX12_asked_91 ?_
              have r_A158_0_8 : (0 : Int) ≤ (A158 0 8) ∧ (A158 0 8) ≤ 5 := hI 0 8
              refine lv_if_le (tgt := 101) hx hb dX12_asked_94 (by decide) (fun c160 => ?_) (fun c160 => ?_)
              · have c160 : (A158 0 8) ≤ 0 := (i_le0 (rb r_A158_0_8 (by decide) (by decide))).mp c160
                refine lv_iload_n hx hb dX12_asked_101 rfl (lv_at hl 0 rfl) ?_
                exact RET z140 _ _ _ _ _ ⟨hI, fr.trans (fr.trans (fr.trans (fr.rf) hj133 rfl rfl) hj149 rfl rfl) hj157 rfl rfl, by omega⟩ hP hS dX12_asked_102
              · have c160 : ¬ (A158 0 8) ≤ 0 := mt (i_le0 (rb r_A158_0_8 (by decide) (by decide))).mpr c160
                refine lv_iconst (v := iI 0) hx hb dX12_asked_97 (by decide +kernel) ?_
                refine lv_goto (tgt := 102) hx hb dX12_asked_98 (by decide) ?_
                exact RET 0 _ _ _ _ _ ⟨hI, fr.trans (fr.trans (fr.trans (fr.rf) hj133 rfl rfl) hj149 rfl rfl) hj157 rfl rfl, by omega⟩ hP hS dX12_asked_102
            refine lv_if_ne (tgt := 90) hx hb dX12_asked_83 (by decide) (fun c152 => ?_) (fun c152 => ?_)
            · have c152 : ¬ (A150 0 8) = 0 := mt (i_eq0 (rb r_A150_0_8 (by decide) (by decide))).mpr c152
              exact J90_153 _ _ _ _ (by omega) hI (fr.rf) hP hS (lv_sub hl [0, 1, 2] rfl)
            · have c152 : (A150 0 8) = 0 := (i_eq0 (rb r_A150_0_8 (by decide) (by decide))).mp c152
              refine lv_aload_n hx hb dX12_asked_86 rfl (lv_at hl 1 rfl) ?_
              refine x_callv (As := []) (rest := []) ⟨hx, hb, hml, hown, hts⟩ (mc_X12_ahead l dC dI cB cI cJ cZ cQ q _ hI) (cwV 0 hts (goodV (wl_in_0 _ (List.mem_of_getElem? (i := 40) rfl)) (wl_in_0 _ (List.mem_of_getElem? (i := 41) rfl)) (wl_in_0 _ (List.mem_of_getElem? (i := 42) rfl)) (wl_in_0 _ (List.mem_of_getElem? (i := 8) rfl)) (wl_in_0 _ (List.mem_of_getElem? (i := 20) rfl))) rfl rfl rfl (by decide +kernel) ⟨Nat.le_of_ble_eq_true rfl, Nat.le_of_ble_eq_true rfl⟩) hK hDD hA0 hP hS 0 12 wm0 rfl rfl hl.1 (Nat.le_of_ble_eq_true rfl) dX12_asked_87 (fun A154 H locs hw155 hP hS => ?_)
              obtain ⟨hI, hf156, hw155⟩ := hw155
              clear hw155
              have r_A154_0_8 : (0 : Int) ≤ (A154 0 8) ∧ (A154 0 8) ≤ 5 := hI 0 8
              exact J90_153 _ _ _ _ (by omega) hI (fr.trans (fr.rf) hf156 rfl rfl) hP hS (lv_sub hl [0, 1, 2] rfl)
          refine lv_if_ne (tgt := 79) hx hb dX12_asked_62 (by decide) (fun c143 => ?_) (fun c143 => ?_)
          · have c143 : ¬ (A134 0 8) = 0 := mt (i_eq0 (rb r_A134_0_8 (by decide) (by decide))).mpr c143
            exact J79_144 _ _ _ _ (by omega) hI (fr.rf) hP hS (lv_sub hl [0, 1, 2] rfl)
          · have c143 : (A134 0 8) = 0 := (i_eq0 (rb r_A134_0_8 (by decide) (by decide))).mp c143
            refine lv_iload_n hx hb dX12_asked_65 rfl (lv_at hl 0 rfl) ?_
            refine lv_iconst (v := iI (-1)) hx hb dX12_asked_66 (by decide +kernel) ?_
            refine lv_icmp_ne (tgt := 79) hx hb dX12_asked_67 (by decide) (fun c145 => ?_) (fun c145 => ?_)
            · have c145 : ¬ z140 = (-1) := mt (i_eq (rb f142 (by decide) (by decide)) ⟨by decide, by decide⟩).mpr c145
              exact J79_144 _ _ _ _ (by omega) hI (fr.rf) hP hS (lv_sub hl [0, 1, 2] rfl)
            · have c145 : z140 = (-1) := (i_eq (rb f142 (by decide) (by decide)) ⟨by decide, by decide⟩).mp c145
              refine lv_aload_n hx hb dX12_asked_70 rfl (lv_at hl 1 rfl) ?_
              refine lv_iconst (v := iI 3) hx hb dX12_asked_71 (by decide +kernel) ?_
              refine lv_aload_n hx hb dX12_asked_72 rfl (lv_at hl 1 rfl) ?_
              have e_A134_4 : A134 0 4 = (A 0 4) := (hj133.2 4 rfl)
              refine va_get (D := (dC, dI)) (ci := 12) (v := .int (iI (A134 0 4))) (C := RX12) (T := TX12) (N := 85) hx hb hts hiX12 hown hK hP 0 wm0 rfl 4 (by decide) (hts _ (List.mem_cons_of_mem _ (wl_in_0 _ (List.mem_of_getElem? (i := 23) rfl)))) (fun _ h9 => h9) rfl dX12_asked_73 ?_
              refine tp_i (y := iI (A 0 4)) (congrArg iI e_A134_4) ?_
              have r_A_0_4 : (0 : Int) ≤ (A 0 4) ∧ (A 0 4) ≤ 1600 := by rw [← e_A134_4]; exact hI 0 4
              refine x_callv (As := [.int (iI 3), .int (iI (A 0 4))]) (rest := []) ⟨hx, hb, hml, hown, hts⟩ (mc_X12_blame l dC dI cB cI cJ cZ cQ q _ 3 (A 0 4) hI ⟨by decide, by decide⟩ r_A_0_4) (cwV 2 hts (goodV (wl_in_0 _ (List.mem_of_getElem? (i := 31) rfl)) (wl_in_0 _ (List.mem_of_getElem? (i := 32) rfl)) (wl_in_0 _ (List.mem_of_getElem? (i := 33) rfl)) (wl_in_0 _ (List.mem_of_getElem? (i := 8) rfl)) (wl_in_0 _ (List.mem_of_getElem? (i := 15) rfl))) rfl rfl rfl (by decide +kernel) ⟨Nat.le_of_ble_eq_true rfl, Nat.le_of_ble_eq_true rfl⟩) hK hDD hA0 hP hS 0 12 wm0 rfl rfl hl.1 (Nat.le_of_ble_eq_true rfl) dX12_asked_76 (fun A146 H locs hw147 hP hS => ?_)
              obtain ⟨_, hI, hf148, hw147⟩ := hw147
              have r_A146_0_8 : (0 : Int) ≤ (A146 0 8) ∧ (A146 0 8) ≤ 5 := hI 0 8
              exact J79_144 _ _ _ _ (by omega) hI (fr.trans (fr.rf) hf148 rfl rfl) hP hS (lv_sub hl [0, 1, 2] rfl)
        refine lv_if_le (tgt := 48) hx hb dX12_asked_41 (by decide) (fun c135 => ?_) (fun c135 => ?_)
        · have c135 : (A134 0 8) ≤ 0 := (i_le0 (rb r_A134_0_8 (by decide) (by decide))).mp c135
          refine lv_aload_n hx hb dX12_asked_48 rfl (lv_at hl 0 rfl) ?_
          refine lv_iload_n hx hb dX12_asked_49 rfl (lv_at hl 1 rfl) ?_
          refine lv_aload_n hx hb dX12_asked_50 rfl (lv_at hl 0 rfl) ?_
          have e_A134_7 : A134 0 7 = (A 0 7) := (hj133.2 7 rfl)
          refine va_get (D := (dC, dI)) (ci := 12) (v := .long (jI (A134 0 7))) (C := RX12) (T := TX12) (N := 85) hx hb hts hiX12 hown hK hP 0 wm0 rfl 7 (by decide) (hts _ (List.mem_cons_of_mem _ (wl_in_0 _ (List.mem_of_getElem? (i := 26) rfl)))) (fun _ h9 => h9) rfl dX12_asked_51 ?_
          refine tp_l (y := jI (A 0 7)) (congrArg jI e_A134_7) ?_
          have r_A_0_7 : (-9223372036854775808 : Int) ≤ (A 0 7) ∧ (A 0 7) ≤ 9223372036854775807 := by rw [← e_A134_7]; exact hI 0 7
          refine x_calli (As := [.int (iI 3), .long (jI (A 0 7))]) (rest := []) ⟨hx, hb, hml, hown, hts⟩ (mc_X12_named l dC dI cB cI cJ cZ cQ q _ 3 (A 0 7) hI ⟨by decide, by decide⟩ r_A_0_7) (cwV 2 hts (goodV (wl_in_2 _ (List.mem_of_getElem? (i := 26) rfl)) (wl_in_2 _ (List.mem_of_getElem? (i := 27) rfl)) (wl_in_2 _ (List.mem_of_getElem? (i := 28) rfl)) (wl_in_0 _ (List.mem_of_getElem? (i := 8) rfl)) (wl_in_1 _ (List.mem_of_getElem? (i := 10) rfl))) rfl rfl rfl (by decide +kernel) ⟨Nat.le_of_ble_eq_true rfl, Nat.le_of_ble_eq_true rfl⟩) hK hDD hA0 hP hS 0 12 wm0 rfl rfl hl.1 (Nat.le_of_ble_eq_true rfl) dX12_asked_54 (fun z137 A138 H locs hw139 hP hS => ?_)
          obtain ⟨rfl, hw139⟩ := hw139
          have hw139 := hw139.2
          have hw139 : -1 ≤ z137 ∧ z137 ≤ 2 := ⟨hw139.1, hw139.2.2.2.2.1 rfl⟩
          exact J57_136 z137 _ _ _ (by omega) hP hS (lv_sub hl [0, 1] rfl)
        · have c135 : ¬ (A134 0 8) ≤ 0 := mt (i_le0 (rb r_A134_0_8 (by decide) (by decide))).mpr c135
          refine lv_iconst (v := iI 0) hx hb dX12_asked_44 (by decide +kernel) ?_
          refine lv_goto (tgt := 57) hx hb dX12_asked_45 (by decide) ?_
          exact J57_136 0 _ _ _ (by omega) hP hS (lv_sub hl [0, 1] rfl)
      have J28_123 : ∀ (H : Heap) (locs : List Loc) (ls : Array Slot), va_P (dC, dI) vwCl (WM cI cJ cZ q A) H → va_S AS s.heap H locs → lv_has ls 3 [(0, .ref (q 0)), (1, .int (iI 3))] → W p l e (headSpec ws_mc_X12_asked ({ frames := 2, cells := 0, slots := 0, locals := 48 } : Room)).room s m [.ref (q 0), .int (iI 3)].toArray below meth c H locs 0 0 Q (F0 m 28 ls []) := by
        intro H locs ls hP hS hl
        refine lv_aload_n hx hb dX12_asked_28 rfl (lv_at hl 0 rfl) ?_
        refine lv_iconst (v := iI 1) hx hb dX12_asked_29 (by decide +kernel) ?_
        refine lv_aload_n hx hb dX12_asked_30 rfl (lv_at hl 0 rfl) ?_
        refine va_get (D := (dC, dI)) (ci := 12) (v := .int (iI (A 0 4))) (C := RX12) (T := TX12) (N := 85) hx hb hts hiX12 hown hK hP 0 wm0 rfl 4 (by decide) (hts _ (List.mem_cons_of_mem _ (wl_in_0 _ (List.mem_of_getElem? (i := 23) rfl)))) (fun _ h9 => h9) rfl dX12_asked_31 ?_
        have r_A_0_4 : (0 : Int) ≤ (A 0 4) ∧ (A 0 4) ≤ 1600 := hI 0 4
        refine x_callv (As := [.int (iI 1), .int (iI (A 0 4))]) (rest := []) ⟨hx, hb, hml, hown, hts⟩ (mc_X12_blame l dC dI cB cI cJ cZ cQ q _ 1 (A 0 4) hI ⟨by decide, by decide⟩ r_A_0_4) (cwV 2 hts (goodV (wl_in_0 _ (List.mem_of_getElem? (i := 31) rfl)) (wl_in_0 _ (List.mem_of_getElem? (i := 32) rfl)) (wl_in_0 _ (List.mem_of_getElem? (i := 33) rfl)) (wl_in_0 _ (List.mem_of_getElem? (i := 8) rfl)) (wl_in_0 _ (List.mem_of_getElem? (i := 15) rfl))) rfl rfl rfl (by decide +kernel) ⟨Nat.le_of_ble_eq_true rfl, Nat.le_of_ble_eq_true rfl⟩) hK hDD hA0 hP hS 0 12 wm0 rfl rfl hl.1 (Nat.le_of_ble_eq_true rfl) dX12_asked_34 (fun A130 H locs hw131 hP hS => ?_)
        obtain ⟨_, hI, hf132, hw131⟩ := hw131
        have r_A130_0_8 : (0 : Int) ≤ (A130 0 8) ∧ (A130 0 8) ≤ 5 := hI 0 8
        exact J37_124 _ _ _ _ hI (fr.trans (fr.rf) hf132 rfl rfl) hP hS (lv_sub hl [0, 1] rfl)
      refine lv_icmp_ne (tgt := 28) hx hb dX12_asked_14 (by decide) (fun c122 => ?_) (fun c122 => ?_)
      · have c122 : ¬ (A 0 3) = 1 := mt (i_eq (rb r_A_0_3 (by decide) (by decide)) ⟨by decide, by decide⟩).mpr c122
        exact J28_123 _ _ _ hP hS (lv_sub hl [0, 1] rfl)
      · have c122 : (A 0 3) = 1 := (i_eq (rb r_A_0_3 (by decide) (by decide)) ⟨by decide, by decide⟩).mp c122
        refine lv_aload_n hx hb dX12_asked_17 rfl (lv_at hl 0 rfl) ?_
        refine lv_aload_n hx hb dX12_asked_18 rfl (lv_at hl 0 rfl) ?_
        refine va_get (D := (dC, dI)) (ci := 12) (v := .long (jI (A 0 7))) (C := RX12) (T := TX12) (N := 85) hx hb hts hiX12 hown hK hP 0 wm0 rfl 7 (by decide) (hts _ (List.mem_cons_of_mem _ (wl_in_0 _ (List.mem_of_getElem? (i := 26) rfl)))) (fun _ h9 => h9) rfl dX12_asked_19 ?_
        have r_A_0_7 : (-9223372036854775808 : Int) ≤ (A 0 7) ∧ (A 0 7) ≤ 9223372036854775807 := hI 0 7
        refine x_calli (As := [.long (jI (A 0 7))]) (rest := []) ⟨hx, hb, hml, hown, hts⟩ (mc_X12_isOwn l dC dI cB cI cJ cZ cQ q _ (A 0 7) hI r_A_0_7) (cwV 1 hts (goodV (wl_in_2 _ (List.mem_of_getElem? (i := 23) rfl)) (wl_in_2 _ (List.mem_of_getElem? (i := 24) rfl)) (wl_in_2 _ (List.mem_of_getElem? (i := 25) rfl)) (wl_in_0 _ (List.mem_of_getElem? (i := 8) rfl)) (wl_in_0 _ (List.mem_of_getElem? (i := 43) rfl))) rfl rfl rfl (by decide +kernel) ⟨Nat.le_of_ble_eq_true rfl, Nat.le_of_ble_eq_true rfl⟩) hK hDD hA0 hP hS 0 12 wm0 rfl rfl hl.1 (Nat.le_of_ble_eq_true rfl) dX12_asked_22 (fun z125 A126 H locs hw127 hP hS => ?_)
        obtain ⟨rfl, hw127⟩ := hw127
        refine lv_if_eq (tgt := 37) hx hb dX12_asked_25 (by decide) (fun c128 => ?_) (fun c128 => ?_)
        · have c128 : z125 = 0 := (i_eq0 (rb hw127 (by decide) (by decide))).mp c128
          exact J37_124 _ _ _ _ hI (fr.rf) hP hS (lv_sub hl [0, 1] rfl)
        · have c128 : ¬ z125 = 0 := mt (i_eq0 (rb hw127 (by decide) (by decide))).mpr c128
          exact J28_123 _ _ _ hP hS (lv_sub hl [0, 1] rfl)
    · have c121 : ¬ (A 0 8) ≤ 0 := mt (i_le0 (rb r_A_0_8 (by decide) (by decide))).mpr c121
      refine lv_iconst (v := iI 0) hx hb dX12_asked_7 (by decide +kernel) ?_
      exact RET 0 _ _ _ _ _ ⟨hI, fr.rf, by omega⟩ hP hS dX12_asked_8
  · have hl : lv_has ls 3 [(0, .ref (q 0)), (1, .int (iI 4))] := hl
    refine lv_aload_n hx hb dX12_asked_0 rfl (lv_at hl 0 rfl) ?_
    refine va_get (D := (dC, dI)) (ci := 12) (v := .int (iI (A 0 8))) (C := RX12) (T := TX12) (N := 85) hx hb hts hiX12 hown hK hP 0 wm0 rfl 8 (by decide) (hts _ (List.mem_cons_of_mem _ (wl_in_0 _ (List.mem_of_getElem? (i := 16) rfl)))) (fun _ h9 => h9) rfl dX12_asked_1 ?_
    have r_A_0_8 : (0 : Int) ≤ (A 0 8) ∧ (A 0 8) ≤ 5 := hI 0 8
    refine lv_if_le (tgt := 9) hx hb dX12_asked_4 (by decide) (fun c161 => ?_) (fun c161 => ?_)
    · have c161 : (A 0 8) ≤ 0 := (i_le0 (rb r_A_0_8 (by decide) (by decide))).mp c161
      refine lv_aload_n hx hb dX12_asked_9 rfl (lv_at hl 0 rfl) ?_
      refine va_get (D := (dC, dI)) (ci := 12) (v := .int (iI (A 0 3))) (C := RX12) (T := TX12) (N := 85) hx hb hts hiX12 hown hK hP 0 wm0 rfl 3 (by decide) (hts _ (List.mem_cons_of_mem _ (wl_in_0 _ (List.mem_of_getElem? (i := 24) rfl)))) (fun _ h9 => h9) rfl dX12_asked_10 ?_
      have r_A_0_3 : (0 : Int) ≤ (A 0 3) ∧ (A 0 3) ≤ 3 := hI 0 3
      refine lv_iconst (v := iI 1) hx hb dX12_asked_13 (by decide +kernel) ?_
      have J37_164 : ∀ (A174 : St) (H : Heap) (locs : List Loc) (ls : Array Slot), IM A174 → fr [] [8, 9] A A174 → va_P (dC, dI) vwCl (WM cI cJ cZ q A174) H → va_S AS s.heap H locs → lv_has ls 3 [(0, .ref (q 0)), (1, .int (iI 4))] → W p l e (headSpec ws_mc_X12_asked ({ frames := 2, cells := 0, slots := 0, locals := 48 } : Room)).room s m [.ref (q 0), .int (iI 4)].toArray below meth c H locs 0 0 Q (F0 m 37 ls []) := by
        intro A174 H locs ls hI hj173 hP hS hl
        refine lv_aload_n hx hb dX12_asked_37 rfl (lv_at hl 0 rfl) ?_
        refine va_get (D := (dC, dI)) (ci := 12) (v := .int (iI (A174 0 8))) (C := RX12) (T := TX12) (N := 85) hx hb hts hiX12 hown hK hP 0 wm0 rfl 8 (by decide) (hts _ (List.mem_cons_of_mem _ (wl_in_0 _ (List.mem_of_getElem? (i := 16) rfl)))) (fun _ h9 => h9) rfl dX12_asked_38 ?_
        have r_A174_0_8 : (0 : Int) ≤ (A174 0 8) ∧ (A174 0 8) ≤ 5 := hI 0 8
        have J57_176 : ∀ (z180 : Int) (H : Heap) (locs : List Loc) (ls : Array Slot), (-1 ≤ z180 ∧ z180 ≤ 3) → va_P (dC, dI) vwCl (WM cI cJ cZ q A174) H → va_S AS s.heap H locs → lv_has ls 3 [(0, .ref (q 0)), (1, .int (iI 4))] → W p l e (headSpec ws_mc_X12_asked ({ frames := 2, cells := 0, slots := 0, locals := 48 } : Room)).room s m [.ref (q 0), .int (iI 4)].toArray below meth c H locs 0 0 Q (F0 m 57 ls [.int (iI z180)]) := by
          intro z180 H locs ls f182 hP hS hl
          refine lv_istore_n (lv' := [(2, .int (iI z180)), (0, .ref (q 0)), (1, .int (iI 4))]) hx hb dX12_asked_57 rfl hl (by decide) rfl (fun ls hl => ?_)
          refine lv_aload_n hx hb dX12_asked_58 rfl (lv_at hl 1 rfl) ?_
          refine va_get (D := (dC, dI)) (ci := 12) (v := .int (iI (A174 0 8))) (C := RX12) (T := TX12) (N := 85) hx hb hts hiX12 hown hK hP 0 wm0 rfl 8 (by decide) (hts _ (List.mem_cons_of_mem _ (wl_in_0 _ (List.mem_of_getElem? (i := 16) rfl)))) (fun _ h9 => h9) rfl dX12_asked_59 ?_
          have J79_184 : ∀ (A190 : St) (H : Heap) (locs : List Loc) (ls : Array Slot), ((A190 0 8) = 0 → 0 ≤ z180) → IM A190 → fr [] [8, 9] A174 A190 → va_P (dC, dI) vwCl (WM cI cJ cZ q A190) H → va_S AS s.heap H locs → lv_has ls 3 [(2, .int (iI z180)), (0, .ref (q 0)), (1, .int (iI 4))] → W p l e (headSpec ws_mc_X12_asked ({ frames := 2, cells := 0, slots := 0, locals := 48 } : Room)).room s m [.ref (q 0), .int (iI 4)].toArray below meth c H locs 0 0 Q (F0 m 79 ls []) := by
            intro A190 H locs ls f191 hI hj189 hP hS hl
            refine lv_aload_n hx hb dX12_asked_79 rfl (lv_at hl 1 rfl) ?_
            refine va_get (D := (dC, dI)) (ci := 12) (v := .int (iI (A190 0 8))) (C := RX12) (T := TX12) (N := 85) hx hb hts hiX12 hown hK hP 0 wm0 rfl 8 (by decide) (hts _ (List.mem_cons_of_mem _ (wl_in_0 _ (List.mem_of_getElem? (i := 16) rfl)))) (fun _ h9 => h9) rfl dX12_asked_80 ?_
            have r_A190_0_8 : (0 : Int) ≤ (A190 0 8) ∧ (A190 0 8) ≤ 5 := hI 0 8
            have J90_193 : ∀ (A198 : St) (H : Heap) (locs : List Loc) (ls : Array Slot), ((A198 0 8) = 0 → 0 ≤ z180) → IM A198 → fr [] [3, 4, 5, 6, 7, 8, 9] A190 A198 → va_P (dC, dI) vwCl (WM cI cJ cZ q A198) H → va_S AS s.heap H locs → lv_has ls 3 [(2, .int (iI z180)), (0, .ref (q 0)), (1, .int (iI 4))] → W p l e (headSpec ws_mc_X12_asked ({ frames := 2, cells := 0, slots := 0, locals := 48 } : Room)).room s m [.ref (q 0), .int (iI 4)].toArray below meth c H locs 0 0 Q (F0 m 90 ls []) := by
              intro A198 H locs ls f199 hI hj197 hP hS hl
              refine lv_aload_n hx hb dX12_asked_90 rfl (lv_at hl 1 rfl) ?_
              refine va_get (D := (dC, dI)) (ci := 12) (v := .int (iI (A198 0 8))) (C := RX12) (T := TX12) (N := 85) hx hb hts hiX12 hown hK hP 0 wm0 rfl 8 (by decide) (hts _ (List.mem_cons_of_mem _ (wl_in_0 _ (List.mem_of_getElem? (i := 16) rfl)))) (fun _ h9 => h9) rfl dX12_asked_91 ?_
              have r_A198_0_8 : (0 : Int) ≤ (A198 0 8) ∧ (A198 0 8) ≤ 5 := hI 0 8
              refine lv_if_le (tgt := 101) hx hb dX12_asked_94 (by decide) (fun c200 => ?_) (fun c200 => ?_)
              · have c200 : (A198 0 8) ≤ 0 := (i_le0 (rb r_A198_0_8 (by decide) (by decide))).mp c200
                refine lv_iload_n hx hb dX12_asked_101 rfl (lv_at hl 0 rfl) ?_
                exact RET z180 _ _ _ _ _ ⟨hI, fr.trans (fr.trans (fr.trans (fr.rf) hj173 rfl rfl) hj189 rfl rfl) hj197 rfl rfl, by omega⟩ hP hS dX12_asked_102
              · have c200 : ¬ (A198 0 8) ≤ 0 := mt (i_le0 (rb r_A198_0_8 (by decide) (by decide))).mpr c200
                refine lv_iconst (v := iI 0) hx hb dX12_asked_97 (by decide +kernel) ?_
                refine lv_goto (tgt := 102) hx hb dX12_asked_98 (by decide) ?_
                exact RET 0 _ _ _ _ _ ⟨hI, fr.trans (fr.trans (fr.trans (fr.rf) hj173 rfl rfl) hj189 rfl rfl) hj197 rfl rfl, by omega⟩ hP hS dX12_asked_102
            refine lv_if_ne (tgt := 90) hx hb dX12_asked_83 (by decide) (fun c192 => ?_) (fun c192 => ?_)
            · have c192 : ¬ (A190 0 8) = 0 := mt (i_eq0 (rb r_A190_0_8 (by decide) (by decide))).mpr c192
              exact J90_193 _ _ _ _ (by omega) hI (fr.rf) hP hS (lv_sub hl [0, 1, 2] rfl)
            · have c192 : (A190 0 8) = 0 := (i_eq0 (rb r_A190_0_8 (by decide) (by decide))).mp c192
              refine lv_aload_n hx hb dX12_asked_86 rfl (lv_at hl 1 rfl) ?_
              refine x_callv (As := []) (rest := []) ⟨hx, hb, hml, hown, hts⟩ (mc_X12_ahead l dC dI cB cI cJ cZ cQ q _ hI) (cwV 0 hts (goodV (wl_in_0 _ (List.mem_of_getElem? (i := 40) rfl)) (wl_in_0 _ (List.mem_of_getElem? (i := 41) rfl)) (wl_in_0 _ (List.mem_of_getElem? (i := 42) rfl)) (wl_in_0 _ (List.mem_of_getElem? (i := 8) rfl)) (wl_in_0 _ (List.mem_of_getElem? (i := 20) rfl))) rfl rfl rfl (by decide +kernel) ⟨Nat.le_of_ble_eq_true rfl, Nat.le_of_ble_eq_true rfl⟩) hK hDD hA0 hP hS 0 12 wm0 rfl rfl hl.1 (Nat.le_of_ble_eq_true rfl) dX12_asked_87 (fun A194 H locs hw195 hP hS => ?_)
              obtain ⟨hI, hf196, hw195⟩ := hw195
              clear hw195
              have r_A194_0_8 : (0 : Int) ≤ (A194 0 8) ∧ (A194 0 8) ≤ 5 := hI 0 8
              exact J90_193 _ _ _ _ (by omega) hI (fr.trans (fr.rf) hf196 rfl rfl) hP hS (lv_sub hl [0, 1, 2] rfl)
          refine lv_if_ne (tgt := 79) hx hb dX12_asked_62 (by decide) (fun c183 => ?_) (fun c183 => ?_)
          · have c183 : ¬ (A174 0 8) = 0 := mt (i_eq0 (rb r_A174_0_8 (by decide) (by decide))).mpr c183
            exact J79_184 _ _ _ _ (by omega) hI (fr.rf) hP hS (lv_sub hl [0, 1, 2] rfl)
          · have c183 : (A174 0 8) = 0 := (i_eq0 (rb r_A174_0_8 (by decide) (by decide))).mp c183
            refine lv_iload_n hx hb dX12_asked_65 rfl (lv_at hl 0 rfl) ?_
            refine lv_iconst (v := iI (-1)) hx hb dX12_asked_66 (by decide +kernel) ?_
            refine lv_icmp_ne (tgt := 79) hx hb dX12_asked_67 (by decide) (fun c185 => ?_) (fun c185 => ?_)
            · have c185 : ¬ z180 = (-1) := mt (i_eq (rb f182 (by decide) (by decide)) ⟨by decide, by decide⟩).mpr c185
              exact J79_184 _ _ _ _ (by omega) hI (fr.rf) hP hS (lv_sub hl [0, 1, 2] rfl)
            · have c185 : z180 = (-1) := (i_eq (rb f182 (by decide) (by decide)) ⟨by decide, by decide⟩).mp c185
              refine lv_aload_n hx hb dX12_asked_70 rfl (lv_at hl 1 rfl) ?_
              refine lv_iconst (v := iI 3) hx hb dX12_asked_71 (by decide +kernel) ?_
              refine lv_aload_n hx hb dX12_asked_72 rfl (lv_at hl 1 rfl) ?_
              have e_A174_4 : A174 0 4 = (A 0 4) := (hj173.2 4 rfl)
              refine va_get (D := (dC, dI)) (ci := 12) (v := .int (iI (A174 0 4))) (C := RX12) (T := TX12) (N := 85) hx hb hts hiX12 hown hK hP 0 wm0 rfl 4 (by decide) (hts _ (List.mem_cons_of_mem _ (wl_in_0 _ (List.mem_of_getElem? (i := 23) rfl)))) (fun _ h9 => h9) rfl dX12_asked_73 ?_
              refine tp_i (y := iI (A 0 4)) (congrArg iI e_A174_4) ?_
              have r_A_0_4 : (0 : Int) ≤ (A 0 4) ∧ (A 0 4) ≤ 1600 := by rw [← e_A174_4]; exact hI 0 4
              refine x_callv (As := [.int (iI 3), .int (iI (A 0 4))]) (rest := []) ⟨hx, hb, hml, hown, hts⟩ (mc_X12_blame l dC dI cB cI cJ cZ cQ q _ 3 (A 0 4) hI ⟨by decide, by decide⟩ r_A_0_4) (cwV 2 hts (goodV (wl_in_0 _ (List.mem_of_getElem? (i := 31) rfl)) (wl_in_0 _ (List.mem_of_getElem? (i := 32) rfl)) (wl_in_0 _ (List.mem_of_getElem? (i := 33) rfl)) (wl_in_0 _ (List.mem_of_getElem? (i := 8) rfl)) (wl_in_0 _ (List.mem_of_getElem? (i := 15) rfl))) rfl rfl rfl (by decide +kernel) ⟨Nat.le_of_ble_eq_true rfl, Nat.le_of_ble_eq_true rfl⟩) hK hDD hA0 hP hS 0 12 wm0 rfl rfl hl.1 (Nat.le_of_ble_eq_true rfl) dX12_asked_76 (fun A186 H locs hw187 hP hS => ?_)
              obtain ⟨_, hI, hf188, hw187⟩ := hw187
              have r_A186_0_8 : (0 : Int) ≤ (A186 0 8) ∧ (A186 0 8) ≤ 5 := hI 0 8
              exact J79_184 _ _ _ _ (by omega) hI (fr.trans (fr.rf) hf188 rfl rfl) hP hS (lv_sub hl [0, 1, 2] rfl)
        refine lv_if_le (tgt := 48) hx hb dX12_asked_41 (by decide) (fun c175 => ?_) (fun c175 => ?_)
        · have c175 : (A174 0 8) ≤ 0 := (i_le0 (rb r_A174_0_8 (by decide) (by decide))).mp c175
          refine lv_aload_n hx hb dX12_asked_48 rfl (lv_at hl 0 rfl) ?_
          refine lv_iload_n hx hb dX12_asked_49 rfl (lv_at hl 1 rfl) ?_
          refine lv_aload_n hx hb dX12_asked_50 rfl (lv_at hl 0 rfl) ?_
          have e_A174_7 : A174 0 7 = (A 0 7) := (hj173.2 7 rfl)
          refine va_get (D := (dC, dI)) (ci := 12) (v := .long (jI (A174 0 7))) (C := RX12) (T := TX12) (N := 85) hx hb hts hiX12 hown hK hP 0 wm0 rfl 7 (by decide) (hts _ (List.mem_cons_of_mem _ (wl_in_0 _ (List.mem_of_getElem? (i := 26) rfl)))) (fun _ h9 => h9) rfl dX12_asked_51 ?_
          refine tp_l (y := jI (A 0 7)) (congrArg jI e_A174_7) ?_
          have r_A_0_7 : (-9223372036854775808 : Int) ≤ (A 0 7) ∧ (A 0 7) ≤ 9223372036854775807 := by rw [← e_A174_7]; exact hI 0 7
          refine x_calli (As := [.int (iI 4), .long (jI (A 0 7))]) (rest := []) ⟨hx, hb, hml, hown, hts⟩ (mc_X12_named l dC dI cB cI cJ cZ cQ q _ 4 (A 0 7) hI ⟨by decide, by decide⟩ r_A_0_7) (cwV 2 hts (goodV (wl_in_2 _ (List.mem_of_getElem? (i := 26) rfl)) (wl_in_2 _ (List.mem_of_getElem? (i := 27) rfl)) (wl_in_2 _ (List.mem_of_getElem? (i := 28) rfl)) (wl_in_0 _ (List.mem_of_getElem? (i := 8) rfl)) (wl_in_1 _ (List.mem_of_getElem? (i := 10) rfl))) rfl rfl rfl (by decide +kernel) ⟨Nat.le_of_ble_eq_true rfl, Nat.le_of_ble_eq_true rfl⟩) hK hDD hA0 hP hS 0 12 wm0 rfl rfl hl.1 (Nat.le_of_ble_eq_true rfl) dX12_asked_54 (fun z177 A178 H locs hw179 hP hS => ?_)
          obtain ⟨rfl, hw179⟩ := hw179
          have hw179 := hw179.2
          have hw179 : -1 ≤ z177 ∧ z177 ≤ 3 := ⟨hw179.1, hw179.2.2.2.2.2 rfl⟩
          exact J57_176 z177 _ _ _ (by omega) hP hS (lv_sub hl [0, 1] rfl)
        · have c175 : ¬ (A174 0 8) ≤ 0 := mt (i_le0 (rb r_A174_0_8 (by decide) (by decide))).mpr c175
          refine lv_iconst (v := iI 0) hx hb dX12_asked_44 (by decide +kernel) ?_
          refine lv_goto (tgt := 57) hx hb dX12_asked_45 (by decide) ?_
          exact J57_176 0 _ _ _ (by omega) hP hS (lv_sub hl [0, 1] rfl)
      have J28_163 : ∀ (H : Heap) (locs : List Loc) (ls : Array Slot), va_P (dC, dI) vwCl (WM cI cJ cZ q A) H → va_S AS s.heap H locs → lv_has ls 3 [(0, .ref (q 0)), (1, .int (iI 4))] → W p l e (headSpec ws_mc_X12_asked ({ frames := 2, cells := 0, slots := 0, locals := 48 } : Room)).room s m [.ref (q 0), .int (iI 4)].toArray below meth c H locs 0 0 Q (F0 m 28 ls []) := by
        intro H locs ls hP hS hl
        refine lv_aload_n hx hb dX12_asked_28 rfl (lv_at hl 0 rfl) ?_
        refine lv_iconst (v := iI 1) hx hb dX12_asked_29 (by decide +kernel) ?_
        refine lv_aload_n hx hb dX12_asked_30 rfl (lv_at hl 0 rfl) ?_
        refine va_get (D := (dC, dI)) (ci := 12) (v := .int (iI (A 0 4))) (C := RX12) (T := TX12) (N := 85) hx hb hts hiX12 hown hK hP 0 wm0 rfl 4 (by decide) (hts _ (List.mem_cons_of_mem _ (wl_in_0 _ (List.mem_of_getElem? (i := 23) rfl)))) (fun _ h9 => h9) rfl dX12_asked_31 ?_
        have r_A_0_4 : (0 : Int) ≤ (A 0 4) ∧ (A 0 4) ≤ 1600 := hI 0 4
        refine x_callv (As := [.int (iI 1), .int (iI (A 0 4))]) (rest := []) ⟨hx, hb, hml, hown, hts⟩ (mc_X12_blame l dC dI cB cI cJ cZ cQ q _ 1 (A 0 4) hI ⟨by decide, by decide⟩ r_A_0_4) (cwV 2 hts (goodV (wl_in_0 _ (List.mem_of_getElem? (i := 31) rfl)) (wl_in_0 _ (List.mem_of_getElem? (i := 32) rfl)) (wl_in_0 _ (List.mem_of_getElem? (i := 33) rfl)) (wl_in_0 _ (List.mem_of_getElem? (i := 8) rfl)) (wl_in_0 _ (List.mem_of_getElem? (i := 15) rfl))) rfl rfl rfl (by decide +kernel) ⟨Nat.le_of_ble_eq_true rfl, Nat.le_of_ble_eq_true rfl⟩) hK hDD hA0 hP hS 0 12 wm0 rfl rfl hl.1 (Nat.le_of_ble_eq_true rfl) dX12_asked_34 (fun A170 H locs hw171 hP hS => ?_)
        obtain ⟨_, hI, hf172, hw171⟩ := hw171
        have r_A170_0_8 : (0 : Int) ≤ (A170 0 8) ∧ (A170 0 8) ≤ 5 := hI 0 8
        exact J37_164 _ _ _ _ hI (fr.trans (fr.rf) hf172 rfl rfl) hP hS (lv_sub hl [0, 1] rfl)
      refine lv_icmp_ne (tgt := 28) hx hb dX12_asked_14 (by decide) (fun c162 => ?_) (fun c162 => ?_)
      · have c162 : ¬ (A 0 3) = 1 := mt (i_eq (rb r_A_0_3 (by decide) (by decide)) ⟨by decide, by decide⟩).mpr c162
        exact J28_163 _ _ _ hP hS (lv_sub hl [0, 1] rfl)
      · have c162 : (A 0 3) = 1 := (i_eq (rb r_A_0_3 (by decide) (by decide)) ⟨by decide, by decide⟩).mp c162
        refine lv_aload_n hx hb dX12_asked_17 rfl (lv_at hl 0 rfl) ?_
        refine lv_aload_n hx hb dX12_asked_18 rfl (lv_at hl 0 rfl) ?_
        refine va_get (D := (dC, dI)) (ci := 12) (v := .long (jI (A 0 7))) (C := RX12) (T := TX12) (N := 85) hx hb hts hiX12 hown hK hP 0 wm0 rfl 7 (by decide) (hts _ (List.mem_cons_of_mem _ (wl_in_0 _ (List.mem_of_getElem? (i := 26) rfl)))) (fun _ h9 => h9) rfl dX12_asked_19 ?_
        have r_A_0_7 : (-9223372036854775808 : Int) ≤ (A 0 7) ∧ (A 0 7) ≤ 9223372036854775807 := hI 0 7
        refine x_calli (As := [.long (jI (A 0 7))]) (rest := []) ⟨hx, hb, hml, hown, hts⟩ (mc_X12_isOwn l dC dI cB cI cJ cZ cQ q _ (A 0 7) hI r_A_0_7) (cwV 1 hts (goodV (wl_in_2 _ (List.mem_of_getElem? (i := 23) rfl)) (wl_in_2 _ (List.mem_of_getElem? (i := 24) rfl)) (wl_in_2 _ (List.mem_of_getElem? (i := 25) rfl)) (wl_in_0 _ (List.mem_of_getElem? (i := 8) rfl)) (wl_in_0 _ (List.mem_of_getElem? (i := 43) rfl))) rfl rfl rfl (by decide +kernel) ⟨Nat.le_of_ble_eq_true rfl, Nat.le_of_ble_eq_true rfl⟩) hK hDD hA0 hP hS 0 12 wm0 rfl rfl hl.1 (Nat.le_of_ble_eq_true rfl) dX12_asked_22 (fun z165 A166 H locs hw167 hP hS => ?_)
        obtain ⟨rfl, hw167⟩ := hw167
        refine lv_if_eq (tgt := 37) hx hb dX12_asked_25 (by decide) (fun c168 => ?_) (fun c168 => ?_)
        · have c168 : z165 = 0 := (i_eq0 (rb hw167 (by decide) (by decide))).mp c168
          exact J37_164 _ _ _ _ hI (fr.rf) hP hS (lv_sub hl [0, 1] rfl)
        · have c168 : ¬ z165 = 0 := mt (i_eq0 (rb hw167 (by decide) (by decide))).mpr c168
          exact J28_163 _ _ _ hP hS (lv_sub hl [0, 1] rfl)
    · have c161 : ¬ (A 0 8) ≤ 0 := mt (i_le0 (rb r_A_0_8 (by decide) (by decide))).mpr c161
      refine lv_iconst (v := iI 0) hx hb dX12_asked_7 (by decide +kernel) ?_
      exact RET 0 _ _ _ _ _ ⟨hI, fr.rf, by omega⟩ hP hS dX12_asked_8

def ws_mc_X12_bars : List Cond := .code yX12_bars cX12_bars 3 none :: WX
set_option maxHeartbeats 4000000 in
set_option maxRecDepth 100000 in
theorem mc_X12_bars (l : Launch) (dC : Nat → ClassId) (dI : Nat → Nat → Nat) (cB cI cJ cZ cQ : ClassId) (q : Nat → Nat) (A : St) (x1 x2 : Int) (hI : IM A) (hx1 : (0 : Int) ≤ x1 ∧ x1 ≤ 4) (hx2 : (-2147483648 : Int) ≤ x2 ∧ x2 ≤ 2147483647) : XMv l yX12_bars ws_mc_X12_bars ({ frames := 2, cells := 0, slots := 0, locals := 48 } : Room) (dC, dI) (tyA cB cI cJ cZ cQ) (WM cI cJ cZ q) A [.ref (q 0), .int (iI x1), .int (iI x2)] (fun u => IM u ∧ fr [] [8, 9] A u ∧ (True)) := by
  refine x_metv (cc := cX12_bars) (maxL := 3) WM_adr (by decide +kernel) rfl (Nat.le_of_ble_eq_true rfl) (fun p e s m below meth c Q AS ls hx hb hml hown hts hK hDD hA0 hP hS hl RET => ?_)
  have hown : s.vm.findClass RX12 = some m.cls := hown
  have hl : lv_has ls 3 [(0, .ref (q 0)), (1, .int (iI x1)), (2, .int (iI x2))] := hl
  have hiX12 : ∀ w ∈ u_ws RX12 TX12 85, w ∈ ws_mc_X12_bars := fun w h => List.mem_cons_of_mem _ (wx_lay w h)
  obtain ⟨H, hHe⟩ : ∃ H : Heap, H = s.heap := ⟨_, rfl⟩
  rw [← hHe] at hP
  have hS : va_S AS s.heap H [] := by rw [hHe]; exact hS
  suffices hgo : ∀ locs : List Loc, va_S AS s.heap H locs → W p l e (headSpec ws_mc_X12_bars ({ frames := 2, cells := 0, slots := 0, locals := 48 } : Room)).room s m [.ref (q 0), .int (iI x1), .int (iI x2)].toArray below meth c H locs 0 0 Q (F0 m 0 ls []) by
    have := hgo [] hS
    rw [hHe] at this
    exact this
  clear hS hHe
  intro locs hS
  rcases (show x1 = 0 ∨ x1 = 1 ∨ x1 = 2 ∨ x1 = 3 ∨ x1 = 4 by omega) with rfl | rfl | rfl | rfl | rfl
  · have hl : lv_has ls 3 [(0, .ref (q 0)), (1, .int (iI 0)), (2, .int (iI x2))] := hl
    refine lv_aload_n hx hb dX12_bars_0 rfl (lv_at hl 0 rfl) ?_
    refine va_get (D := (dC, dI)) (ci := 12) (v := .int (iI (A 0 8))) (C := RX12) (T := TX12) (N := 85) hx hb hts hiX12 hown hK hP 0 wm0 rfl 8 (by decide) (hts _ (List.mem_cons_of_mem _ (wl_in_0 _ (List.mem_of_getElem? (i := 16) rfl)))) (fun _ h9 => h9) rfl dX12_bars_1 ?_
    have r_A_0_8 : (0 : Int) ≤ (A 0 8) ∧ (A 0 8) ≤ 5 := hI 0 8
    refine lv_if_ne (tgt := 53) hx hb dX12_bars_4 (by decide) (fun c1 => ?_) (fun c1 => ?_)
    · have c1 : ¬ (A 0 8) = 0 := mt (i_eq0 (rb r_A_0_8 (by decide) (by decide))).mpr c1
      exact RET _ _ _ _ _ ⟨hI, fr.rf, trivial⟩ hP hS dX12_bars_53
    · have c1 : (A 0 8) = 0 := (i_eq0 (rb r_A_0_8 (by decide) (by decide))).mp c1
      refine lv_aload_n hx hb dX12_bars_7 rfl (lv_at hl 0 rfl) ?_
      refine va_get (D := (dC, dI)) (ci := 12) (v := .int (iI (A 0 3))) (C := RX12) (T := TX12) (N := 85) hx hb hts hiX12 hown hK hP 0 wm0 rfl 3 (by decide) (hts _ (List.mem_cons_of_mem _ (wl_in_0 _ (List.mem_of_getElem? (i := 24) rfl)))) (fun _ h9 => h9) rfl dX12_bars_8 ?_
      have r_A_0_3 : (0 : Int) ≤ (A 0 3) ∧ (A 0 3) ≤ 3 := hI 0 3
      refine lv_iconst (v := iI 1) hx hb dX12_bars_11 (by decide +kernel) ?_
      refine lv_icmp_ne (tgt := 53) hx hb dX12_bars_12 (by decide) (fun c2 => ?_) (fun c2 => ?_)
      · have c2 : ¬ (A 0 3) = 1 := mt (i_eq (rb r_A_0_3 (by decide) (by decide)) ⟨by decide, by decide⟩).mpr c2
        exact RET _ _ _ _ _ ⟨hI, fr.rf, trivial⟩ hP hS dX12_bars_53
      · have c2 : (A 0 3) = 1 := (i_eq (rb r_A_0_3 (by decide) (by decide)) ⟨by decide, by decide⟩).mp c2
        refine lv_aload_n hx hb dX12_bars_15 rfl (lv_at hl 0 rfl) ?_
        refine lv_aload_n hx hb dX12_bars_16 rfl (lv_at hl 0 rfl) ?_
        refine va_get (D := (dC, dI)) (ci := 12) (v := .long (jI (A 0 7))) (C := RX12) (T := TX12) (N := 85) hx hb hts hiX12 hown hK hP 0 wm0 rfl 7 (by decide) (hts _ (List.mem_cons_of_mem _ (wl_in_0 _ (List.mem_of_getElem? (i := 26) rfl)))) (fun _ h9 => h9) rfl dX12_bars_17 ?_
        have r_A_0_7 : (-9223372036854775808 : Int) ≤ (A 0 7) ∧ (A 0 7) ≤ 9223372036854775807 := hI 0 7
        refine x_calli (As := [.long (jI (A 0 7))]) (rest := []) ⟨hx, hb, hml, hown, hts⟩ (mc_X12_isOwn l dC dI cB cI cJ cZ cQ q _ (A 0 7) hI r_A_0_7) (cwV 1 hts (goodV (wl_in_2 _ (List.mem_of_getElem? (i := 23) rfl)) (wl_in_2 _ (List.mem_of_getElem? (i := 24) rfl)) (wl_in_2 _ (List.mem_of_getElem? (i := 25) rfl)) (wl_in_0 _ (List.mem_of_getElem? (i := 8) rfl)) (wl_in_0 _ (List.mem_of_getElem? (i := 43) rfl))) rfl rfl rfl (by decide +kernel) ⟨Nat.le_of_ble_eq_true rfl, Nat.le_of_ble_eq_true rfl⟩) hK hDD hA0 hP hS 0 12 wm0 rfl rfl hl.1 (Nat.le_of_ble_eq_true rfl) dX12_bars_20 (fun z3 A4 H locs hw5 hP hS => ?_)
        obtain ⟨rfl, hw5⟩ := hw5
        refine lv_if_ne (tgt := 53) hx hb dX12_bars_23 (by decide) (fun c6 => ?_) (fun c6 => ?_)
        · have c6 : ¬ z3 = 0 := mt (i_eq0 (rb hw5 (by decide) (by decide))).mpr c6
          exact RET _ _ _ _ _ ⟨hI, fr.rf, trivial⟩ hP hS dX12_bars_53
        · have c6 : z3 = 0 := (i_eq0 (rb hw5 (by decide) (by decide))).mp c6
          refine lv_iload_n hx hb dX12_bars_26 rfl (lv_at hl 2 rfl) ?_
          refine lv_iconst (v := iI (-1)) hx hb dX12_bars_27 (by decide +kernel) ?_
          refine lv_icmp_eq (tgt := 53) hx hb dX12_bars_28 (by decide) (fun c7 => ?_) (fun c7 => ?_)
          · have c7 : x2 = (-1) := (i_eq hx2 ⟨by decide, by decide⟩).mp c7
            exact RET _ _ _ _ _ ⟨hI, fr.rf, trivial⟩ hP hS dX12_bars_53
          · have c7 : ¬ x2 = (-1) := mt (i_eq hx2 ⟨by decide, by decide⟩).mpr c7
            refine lv_aload_n hx hb dX12_bars_31 rfl (lv_at hl 0 rfl) ?_
            refine lv_iload_n hx hb dX12_bars_32 rfl (lv_at hl 1 rfl) ?_
            refine lv_aload_n hx hb dX12_bars_33 rfl (lv_at hl 0 rfl) ?_
            refine va_get (D := (dC, dI)) (ci := 12) (v := .long (jI (A 0 7))) (C := RX12) (T := TX12) (N := 85) hx hb hts hiX12 hown hK hP 0 wm0 rfl 7 (by decide) (hts _ (List.mem_cons_of_mem _ (wl_in_0 _ (List.mem_of_getElem? (i := 26) rfl)))) (fun _ h9 => h9) rfl dX12_bars_34 ?_
            refine x_calli (As := [.int (iI 0), .long (jI (A 0 7))]) (rest := []) ⟨hx, hb, hml, hown, hts⟩ (mc_X12_named l dC dI cB cI cJ cZ cQ q _ 0 (A 0 7) hI ⟨by decide, by decide⟩ r_A_0_7) (cwV 2 hts (goodV (wl_in_2 _ (List.mem_of_getElem? (i := 26) rfl)) (wl_in_2 _ (List.mem_of_getElem? (i := 27) rfl)) (wl_in_2 _ (List.mem_of_getElem? (i := 28) rfl)) (wl_in_0 _ (List.mem_of_getElem? (i := 8) rfl)) (wl_in_1 _ (List.mem_of_getElem? (i := 10) rfl))) rfl rfl rfl (by decide +kernel) ⟨Nat.le_of_ble_eq_true rfl, Nat.le_of_ble_eq_true rfl⟩) hK hDD hA0 hP hS 0 12 wm0 rfl rfl hl.1 (Nat.le_of_ble_eq_true rfl) dX12_bars_37 (fun z8 A9 H locs hw10 hP hS => ?_)
            obtain ⟨rfl, hw10⟩ := hw10
            have hw10 := hw10.2
            have hw10 : -1 ≤ z8 ∧ z8 ≤ 7 := ⟨hw10.1, hw10.2.2.1 rfl⟩
            refine lv_iload_n hx hb dX12_bars_40 rfl (lv_at hl 2 rfl) ?_
            refine lv_icmp_ne (tgt := 53) hx hb dX12_bars_41 (by decide) (fun c11 => ?_) (fun c11 => ?_)
            · have c11 : ¬ z8 = x2 := mt (i_eq (rb hw10 (by decide) (by decide)) hx2).mpr c11
              exact RET _ _ _ _ _ ⟨hI, fr.rf, trivial⟩ hP hS dX12_bars_53
            · have c11 : z8 = x2 := (i_eq (rb hw10 (by decide) (by decide)) hx2).mp c11
              refine lv_aload_n hx hb dX12_bars_44 rfl (lv_at hl 0 rfl) ?_
              refine lv_iconst (v := iI 3) hx hb dX12_bars_45 (by decide +kernel) ?_
              refine lv_aload_n hx hb dX12_bars_46 rfl (lv_at hl 0 rfl) ?_
              refine va_get (D := (dC, dI)) (ci := 12) (v := .int (iI (A 0 4))) (C := RX12) (T := TX12) (N := 85) hx hb hts hiX12 hown hK hP 0 wm0 rfl 4 (by decide) (hts _ (List.mem_cons_of_mem _ (wl_in_0 _ (List.mem_of_getElem? (i := 23) rfl)))) (fun _ h9 => h9) rfl dX12_bars_47 ?_
              have r_A_0_4 : (0 : Int) ≤ (A 0 4) ∧ (A 0 4) ≤ 1600 := hI 0 4
              refine x_callv (As := [.int (iI 3), .int (iI (A 0 4))]) (rest := []) ⟨hx, hb, hml, hown, hts⟩ (mc_X12_blame l dC dI cB cI cJ cZ cQ q _ 3 (A 0 4) hI ⟨by decide, by decide⟩ r_A_0_4) (cwV 2 hts (goodV (wl_in_0 _ (List.mem_of_getElem? (i := 31) rfl)) (wl_in_0 _ (List.mem_of_getElem? (i := 32) rfl)) (wl_in_0 _ (List.mem_of_getElem? (i := 33) rfl)) (wl_in_0 _ (List.mem_of_getElem? (i := 8) rfl)) (wl_in_0 _ (List.mem_of_getElem? (i := 15) rfl))) rfl rfl rfl (by decide +kernel) ⟨Nat.le_of_ble_eq_true rfl, Nat.le_of_ble_eq_true rfl⟩) hK hDD hA0 hP hS 0 12 wm0 rfl rfl hl.1 (Nat.le_of_ble_eq_true rfl) dX12_bars_50 (fun A12 H locs hw13 hP hS => ?_)
              obtain ⟨_, hI, hf14, hw13⟩ := hw13
              have r_A12_0_8 : (0 : Int) ≤ (A12 0 8) ∧ (A12 0 8) ≤ 5 := hI 0 8
              exact RET _ _ _ _ _ ⟨hI, fr.trans (fr.rf) hf14 rfl rfl, trivial⟩ hP hS dX12_bars_53
  · have hl : lv_has ls 3 [(0, .ref (q 0)), (1, .int (iI 1)), (2, .int (iI x2))] := hl
    refine lv_aload_n hx hb dX12_bars_0 rfl (lv_at hl 0 rfl) ?_
    refine va_get (D := (dC, dI)) (ci := 12) (v := .int (iI (A 0 8))) (C := RX12) (T := TX12) (N := 85) hx hb hts hiX12 hown hK hP 0 wm0 rfl 8 (by decide) (hts _ (List.mem_cons_of_mem _ (wl_in_0 _ (List.mem_of_getElem? (i := 16) rfl)))) (fun _ h9 => h9) rfl dX12_bars_1 ?_
    have r_A_0_8 : (0 : Int) ≤ (A 0 8) ∧ (A 0 8) ≤ 5 := hI 0 8
    refine lv_if_ne (tgt := 53) hx hb dX12_bars_4 (by decide) (fun c15 => ?_) (fun c15 => ?_)
    · have c15 : ¬ (A 0 8) = 0 := mt (i_eq0 (rb r_A_0_8 (by decide) (by decide))).mpr c15
      exact RET _ _ _ _ _ ⟨hI, fr.rf, trivial⟩ hP hS dX12_bars_53
    · have c15 : (A 0 8) = 0 := (i_eq0 (rb r_A_0_8 (by decide) (by decide))).mp c15
      refine lv_aload_n hx hb dX12_bars_7 rfl (lv_at hl 0 rfl) ?_
      refine va_get (D := (dC, dI)) (ci := 12) (v := .int (iI (A 0 3))) (C := RX12) (T := TX12) (N := 85) hx hb hts hiX12 hown hK hP 0 wm0 rfl 3 (by decide) (hts _ (List.mem_cons_of_mem _ (wl_in_0 _ (List.mem_of_getElem? (i := 24) rfl)))) (fun _ h9 => h9) rfl dX12_bars_8 ?_
      have r_A_0_3 : (0 : Int) ≤ (A 0 3) ∧ (A 0 3) ≤ 3 := hI 0 3
      refine lv_iconst (v := iI 1) hx hb dX12_bars_11 (by decide +kernel) ?_
      refine lv_icmp_ne (tgt := 53) hx hb dX12_bars_12 (by decide) (fun c16 => ?_) (fun c16 => ?_)
      · have c16 : ¬ (A 0 3) = 1 := mt (i_eq (rb r_A_0_3 (by decide) (by decide)) ⟨by decide, by decide⟩).mpr c16
        exact RET _ _ _ _ _ ⟨hI, fr.rf, trivial⟩ hP hS dX12_bars_53
      · have c16 : (A 0 3) = 1 := (i_eq (rb r_A_0_3 (by decide) (by decide)) ⟨by decide, by decide⟩).mp c16
        refine lv_aload_n hx hb dX12_bars_15 rfl (lv_at hl 0 rfl) ?_
        refine lv_aload_n hx hb dX12_bars_16 rfl (lv_at hl 0 rfl) ?_
        refine va_get (D := (dC, dI)) (ci := 12) (v := .long (jI (A 0 7))) (C := RX12) (T := TX12) (N := 85) hx hb hts hiX12 hown hK hP 0 wm0 rfl 7 (by decide) (hts _ (List.mem_cons_of_mem _ (wl_in_0 _ (List.mem_of_getElem? (i := 26) rfl)))) (fun _ h9 => h9) rfl dX12_bars_17 ?_
        have r_A_0_7 : (-9223372036854775808 : Int) ≤ (A 0 7) ∧ (A 0 7) ≤ 9223372036854775807 := hI 0 7
        refine x_calli (As := [.long (jI (A 0 7))]) (rest := []) ⟨hx, hb, hml, hown, hts⟩ (mc_X12_isOwn l dC dI cB cI cJ cZ cQ q _ (A 0 7) hI r_A_0_7) (cwV 1 hts (goodV (wl_in_2 _ (List.mem_of_getElem? (i := 23) rfl)) (wl_in_2 _ (List.mem_of_getElem? (i := 24) rfl)) (wl_in_2 _ (List.mem_of_getElem? (i := 25) rfl)) (wl_in_0 _ (List.mem_of_getElem? (i := 8) rfl)) (wl_in_0 _ (List.mem_of_getElem? (i := 43) rfl))) rfl rfl rfl (by decide +kernel) ⟨Nat.le_of_ble_eq_true rfl, Nat.le_of_ble_eq_true rfl⟩) hK hDD hA0 hP hS 0 12 wm0 rfl rfl hl.1 (Nat.le_of_ble_eq_true rfl) dX12_bars_20 (fun z17 A18 H locs hw19 hP hS => ?_)
        obtain ⟨rfl, hw19⟩ := hw19
        refine lv_if_ne (tgt := 53) hx hb dX12_bars_23 (by decide) (fun c20 => ?_) (fun c20 => ?_)
        · have c20 : ¬ z17 = 0 := mt (i_eq0 (rb hw19 (by decide) (by decide))).mpr c20
          exact RET _ _ _ _ _ ⟨hI, fr.rf, trivial⟩ hP hS dX12_bars_53
        · have c20 : z17 = 0 := (i_eq0 (rb hw19 (by decide) (by decide))).mp c20
          refine lv_iload_n hx hb dX12_bars_26 rfl (lv_at hl 2 rfl) ?_
          refine lv_iconst (v := iI (-1)) hx hb dX12_bars_27 (by decide +kernel) ?_
          refine lv_icmp_eq (tgt := 53) hx hb dX12_bars_28 (by decide) (fun c21 => ?_) (fun c21 => ?_)
          · have c21 : x2 = (-1) := (i_eq hx2 ⟨by decide, by decide⟩).mp c21
            exact RET _ _ _ _ _ ⟨hI, fr.rf, trivial⟩ hP hS dX12_bars_53
          · have c21 : ¬ x2 = (-1) := mt (i_eq hx2 ⟨by decide, by decide⟩).mpr c21
            refine lv_aload_n hx hb dX12_bars_31 rfl (lv_at hl 0 rfl) ?_
            refine lv_iload_n hx hb dX12_bars_32 rfl (lv_at hl 1 rfl) ?_
            refine lv_aload_n hx hb dX12_bars_33 rfl (lv_at hl 0 rfl) ?_
            refine va_get (D := (dC, dI)) (ci := 12) (v := .long (jI (A 0 7))) (C := RX12) (T := TX12) (N := 85) hx hb hts hiX12 hown hK hP 0 wm0 rfl 7 (by decide) (hts _ (List.mem_cons_of_mem _ (wl_in_0 _ (List.mem_of_getElem? (i := 26) rfl)))) (fun _ h9 => h9) rfl dX12_bars_34 ?_
            refine x_calli (As := [.int (iI 1), .long (jI (A 0 7))]) (rest := []) ⟨hx, hb, hml, hown, hts⟩ (mc_X12_named l dC dI cB cI cJ cZ cQ q _ 1 (A 0 7) hI ⟨by decide, by decide⟩ r_A_0_7) (cwV 2 hts (goodV (wl_in_2 _ (List.mem_of_getElem? (i := 26) rfl)) (wl_in_2 _ (List.mem_of_getElem? (i := 27) rfl)) (wl_in_2 _ (List.mem_of_getElem? (i := 28) rfl)) (wl_in_0 _ (List.mem_of_getElem? (i := 8) rfl)) (wl_in_1 _ (List.mem_of_getElem? (i := 10) rfl))) rfl rfl rfl (by decide +kernel) ⟨Nat.le_of_ble_eq_true rfl, Nat.le_of_ble_eq_true rfl⟩) hK hDD hA0 hP hS 0 12 wm0 rfl rfl hl.1 (Nat.le_of_ble_eq_true rfl) dX12_bars_37 (fun z22 A23 H locs hw24 hP hS => ?_)
            obtain ⟨rfl, hw24⟩ := hw24
            have hw24 := hw24.2
            have hw24 : -1 ≤ z22 ∧ z22 ≤ 9 := ⟨hw24.1, hw24.2.1⟩
            refine lv_iload_n hx hb dX12_bars_40 rfl (lv_at hl 2 rfl) ?_
            refine lv_icmp_ne (tgt := 53) hx hb dX12_bars_41 (by decide) (fun c25 => ?_) (fun c25 => ?_)
            · have c25 : ¬ z22 = x2 := mt (i_eq (rb hw24 (by decide) (by decide)) hx2).mpr c25
              exact RET _ _ _ _ _ ⟨hI, fr.rf, trivial⟩ hP hS dX12_bars_53
            · have c25 : z22 = x2 := (i_eq (rb hw24 (by decide) (by decide)) hx2).mp c25
              refine lv_aload_n hx hb dX12_bars_44 rfl (lv_at hl 0 rfl) ?_
              refine lv_iconst (v := iI 3) hx hb dX12_bars_45 (by decide +kernel) ?_
              refine lv_aload_n hx hb dX12_bars_46 rfl (lv_at hl 0 rfl) ?_
              refine va_get (D := (dC, dI)) (ci := 12) (v := .int (iI (A 0 4))) (C := RX12) (T := TX12) (N := 85) hx hb hts hiX12 hown hK hP 0 wm0 rfl 4 (by decide) (hts _ (List.mem_cons_of_mem _ (wl_in_0 _ (List.mem_of_getElem? (i := 23) rfl)))) (fun _ h9 => h9) rfl dX12_bars_47 ?_
              have r_A_0_4 : (0 : Int) ≤ (A 0 4) ∧ (A 0 4) ≤ 1600 := hI 0 4
              refine x_callv (As := [.int (iI 3), .int (iI (A 0 4))]) (rest := []) ⟨hx, hb, hml, hown, hts⟩ (mc_X12_blame l dC dI cB cI cJ cZ cQ q _ 3 (A 0 4) hI ⟨by decide, by decide⟩ r_A_0_4) (cwV 2 hts (goodV (wl_in_0 _ (List.mem_of_getElem? (i := 31) rfl)) (wl_in_0 _ (List.mem_of_getElem? (i := 32) rfl)) (wl_in_0 _ (List.mem_of_getElem? (i := 33) rfl)) (wl_in_0 _ (List.mem_of_getElem? (i := 8) rfl)) (wl_in_0 _ (List.mem_of_getElem? (i := 15) rfl))) rfl rfl rfl (by decide +kernel) ⟨Nat.le_of_ble_eq_true rfl, Nat.le_of_ble_eq_true rfl⟩) hK hDD hA0 hP hS 0 12 wm0 rfl rfl hl.1 (Nat.le_of_ble_eq_true rfl) dX12_bars_50 (fun A26 H locs hw27 hP hS => ?_)
              obtain ⟨_, hI, hf28, hw27⟩ := hw27
              have r_A26_0_8 : (0 : Int) ≤ (A26 0 8) ∧ (A26 0 8) ≤ 5 := hI 0 8
              exact RET _ _ _ _ _ ⟨hI, fr.trans (fr.rf) hf28 rfl rfl, trivial⟩ hP hS dX12_bars_53
  · have hl : lv_has ls 3 [(0, .ref (q 0)), (1, .int (iI 2)), (2, .int (iI x2))] := hl
    refine lv_aload_n hx hb dX12_bars_0 rfl (lv_at hl 0 rfl) ?_
    refine va_get (D := (dC, dI)) (ci := 12) (v := .int (iI (A 0 8))) (C := RX12) (T := TX12) (N := 85) hx hb hts hiX12 hown hK hP 0 wm0 rfl 8 (by decide) (hts _ (List.mem_cons_of_mem _ (wl_in_0 _ (List.mem_of_getElem? (i := 16) rfl)))) (fun _ h9 => h9) rfl dX12_bars_1 ?_
    have r_A_0_8 : (0 : Int) ≤ (A 0 8) ∧ (A 0 8) ≤ 5 := hI 0 8
    refine lv_if_ne (tgt := 53) hx hb dX12_bars_4 (by decide) (fun c29 => ?_) (fun c29 => ?_)
    · have c29 : ¬ (A 0 8) = 0 := mt (i_eq0 (rb r_A_0_8 (by decide) (by decide))).mpr c29
      exact RET _ _ _ _ _ ⟨hI, fr.rf, trivial⟩ hP hS dX12_bars_53
    · have c29 : (A 0 8) = 0 := (i_eq0 (rb r_A_0_8 (by decide) (by decide))).mp c29
      refine lv_aload_n hx hb dX12_bars_7 rfl (lv_at hl 0 rfl) ?_
      refine va_get (D := (dC, dI)) (ci := 12) (v := .int (iI (A 0 3))) (C := RX12) (T := TX12) (N := 85) hx hb hts hiX12 hown hK hP 0 wm0 rfl 3 (by decide) (hts _ (List.mem_cons_of_mem _ (wl_in_0 _ (List.mem_of_getElem? (i := 24) rfl)))) (fun _ h9 => h9) rfl dX12_bars_8 ?_
      have r_A_0_3 : (0 : Int) ≤ (A 0 3) ∧ (A 0 3) ≤ 3 := hI 0 3
      refine lv_iconst (v := iI 1) hx hb dX12_bars_11 (by decide +kernel) ?_
      refine lv_icmp_ne (tgt := 53) hx hb dX12_bars_12 (by decide) (fun c30 => ?_) (fun c30 => ?_)
      · have c30 : ¬ (A 0 3) = 1 := mt (i_eq (rb r_A_0_3 (by decide) (by decide)) ⟨by decide, by decide⟩).mpr c30
        exact RET _ _ _ _ _ ⟨hI, fr.rf, trivial⟩ hP hS dX12_bars_53
      · have c30 : (A 0 3) = 1 := (i_eq (rb r_A_0_3 (by decide) (by decide)) ⟨by decide, by decide⟩).mp c30
        refine lv_aload_n hx hb dX12_bars_15 rfl (lv_at hl 0 rfl) ?_
        refine lv_aload_n hx hb dX12_bars_16 rfl (lv_at hl 0 rfl) ?_
        refine va_get (D := (dC, dI)) (ci := 12) (v := .long (jI (A 0 7))) (C := RX12) (T := TX12) (N := 85) hx hb hts hiX12 hown hK hP 0 wm0 rfl 7 (by decide) (hts _ (List.mem_cons_of_mem _ (wl_in_0 _ (List.mem_of_getElem? (i := 26) rfl)))) (fun _ h9 => h9) rfl dX12_bars_17 ?_
        have r_A_0_7 : (-9223372036854775808 : Int) ≤ (A 0 7) ∧ (A 0 7) ≤ 9223372036854775807 := hI 0 7
        refine x_calli (As := [.long (jI (A 0 7))]) (rest := []) ⟨hx, hb, hml, hown, hts⟩ (mc_X12_isOwn l dC dI cB cI cJ cZ cQ q _ (A 0 7) hI r_A_0_7) (cwV 1 hts (goodV (wl_in_2 _ (List.mem_of_getElem? (i := 23) rfl)) (wl_in_2 _ (List.mem_of_getElem? (i := 24) rfl)) (wl_in_2 _ (List.mem_of_getElem? (i := 25) rfl)) (wl_in_0 _ (List.mem_of_getElem? (i := 8) rfl)) (wl_in_0 _ (List.mem_of_getElem? (i := 43) rfl))) rfl rfl rfl (by decide +kernel) ⟨Nat.le_of_ble_eq_true rfl, Nat.le_of_ble_eq_true rfl⟩) hK hDD hA0 hP hS 0 12 wm0 rfl rfl hl.1 (Nat.le_of_ble_eq_true rfl) dX12_bars_20 (fun z31 A32 H locs hw33 hP hS => ?_)
        obtain ⟨rfl, hw33⟩ := hw33
        refine lv_if_ne (tgt := 53) hx hb dX12_bars_23 (by decide) (fun c34 => ?_) (fun c34 => ?_)
        · have c34 : ¬ z31 = 0 := mt (i_eq0 (rb hw33 (by decide) (by decide))).mpr c34
          exact RET _ _ _ _ _ ⟨hI, fr.rf, trivial⟩ hP hS dX12_bars_53
        · have c34 : z31 = 0 := (i_eq0 (rb hw33 (by decide) (by decide))).mp c34
          refine lv_iload_n hx hb dX12_bars_26 rfl (lv_at hl 2 rfl) ?_
          refine lv_iconst (v := iI (-1)) hx hb dX12_bars_27 (by decide +kernel) ?_
          refine lv_icmp_eq (tgt := 53) hx hb dX12_bars_28 (by decide) (fun c35 => ?_) (fun c35 => ?_)
          · have c35 : x2 = (-1) := (i_eq hx2 ⟨by decide, by decide⟩).mp c35
            exact RET _ _ _ _ _ ⟨hI, fr.rf, trivial⟩ hP hS dX12_bars_53
          · have c35 : ¬ x2 = (-1) := mt (i_eq hx2 ⟨by decide, by decide⟩).mpr c35
            refine lv_aload_n hx hb dX12_bars_31 rfl (lv_at hl 0 rfl) ?_
            refine lv_iload_n hx hb dX12_bars_32 rfl (lv_at hl 1 rfl) ?_
            refine lv_aload_n hx hb dX12_bars_33 rfl (lv_at hl 0 rfl) ?_
            refine va_get (D := (dC, dI)) (ci := 12) (v := .long (jI (A 0 7))) (C := RX12) (T := TX12) (N := 85) hx hb hts hiX12 hown hK hP 0 wm0 rfl 7 (by decide) (hts _ (List.mem_cons_of_mem _ (wl_in_0 _ (List.mem_of_getElem? (i := 26) rfl)))) (fun _ h9 => h9) rfl dX12_bars_34 ?_
            refine x_calli (As := [.int (iI 2), .long (jI (A 0 7))]) (rest := []) ⟨hx, hb, hml, hown, hts⟩ (mc_X12_named l dC dI cB cI cJ cZ cQ q _ 2 (A 0 7) hI ⟨by decide, by decide⟩ r_A_0_7) (cwV 2 hts (goodV (wl_in_2 _ (List.mem_of_getElem? (i := 26) rfl)) (wl_in_2 _ (List.mem_of_getElem? (i := 27) rfl)) (wl_in_2 _ (List.mem_of_getElem? (i := 28) rfl)) (wl_in_0 _ (List.mem_of_getElem? (i := 8) rfl)) (wl_in_1 _ (List.mem_of_getElem? (i := 10) rfl))) rfl rfl rfl (by decide +kernel) ⟨Nat.le_of_ble_eq_true rfl, Nat.le_of_ble_eq_true rfl⟩) hK hDD hA0 hP hS 0 12 wm0 rfl rfl hl.1 (Nat.le_of_ble_eq_true rfl) dX12_bars_37 (fun z36 A37 H locs hw38 hP hS => ?_)
            obtain ⟨rfl, hw38⟩ := hw38
            have hw38 := hw38.2
            have hw38 : -1 ≤ z36 ∧ z36 ≤ 3 := ⟨hw38.1, hw38.2.2.2.1 rfl⟩
            refine lv_iload_n hx hb dX12_bars_40 rfl (lv_at hl 2 rfl) ?_
            refine lv_icmp_ne (tgt := 53) hx hb dX12_bars_41 (by decide) (fun c39 => ?_) (fun c39 => ?_)
            · have c39 : ¬ z36 = x2 := mt (i_eq (rb hw38 (by decide) (by decide)) hx2).mpr c39
              exact RET _ _ _ _ _ ⟨hI, fr.rf, trivial⟩ hP hS dX12_bars_53
            · have c39 : z36 = x2 := (i_eq (rb hw38 (by decide) (by decide)) hx2).mp c39
              refine lv_aload_n hx hb dX12_bars_44 rfl (lv_at hl 0 rfl) ?_
              refine lv_iconst (v := iI 3) hx hb dX12_bars_45 (by decide +kernel) ?_
              refine lv_aload_n hx hb dX12_bars_46 rfl (lv_at hl 0 rfl) ?_
              refine va_get (D := (dC, dI)) (ci := 12) (v := .int (iI (A 0 4))) (C := RX12) (T := TX12) (N := 85) hx hb hts hiX12 hown hK hP 0 wm0 rfl 4 (by decide) (hts _ (List.mem_cons_of_mem _ (wl_in_0 _ (List.mem_of_getElem? (i := 23) rfl)))) (fun _ h9 => h9) rfl dX12_bars_47 ?_
              have r_A_0_4 : (0 : Int) ≤ (A 0 4) ∧ (A 0 4) ≤ 1600 := hI 0 4
              refine x_callv (As := [.int (iI 3), .int (iI (A 0 4))]) (rest := []) ⟨hx, hb, hml, hown, hts⟩ (mc_X12_blame l dC dI cB cI cJ cZ cQ q _ 3 (A 0 4) hI ⟨by decide, by decide⟩ r_A_0_4) (cwV 2 hts (goodV (wl_in_0 _ (List.mem_of_getElem? (i := 31) rfl)) (wl_in_0 _ (List.mem_of_getElem? (i := 32) rfl)) (wl_in_0 _ (List.mem_of_getElem? (i := 33) rfl)) (wl_in_0 _ (List.mem_of_getElem? (i := 8) rfl)) (wl_in_0 _ (List.mem_of_getElem? (i := 15) rfl))) rfl rfl rfl (by decide +kernel) ⟨Nat.le_of_ble_eq_true rfl, Nat.le_of_ble_eq_true rfl⟩) hK hDD hA0 hP hS 0 12 wm0 rfl rfl hl.1 (Nat.le_of_ble_eq_true rfl) dX12_bars_50 (fun A40 H locs hw41 hP hS => ?_)
              obtain ⟨_, hI, hf42, hw41⟩ := hw41
              have r_A40_0_8 : (0 : Int) ≤ (A40 0 8) ∧ (A40 0 8) ≤ 5 := hI 0 8
              exact RET _ _ _ _ _ ⟨hI, fr.trans (fr.rf) hf42 rfl rfl, trivial⟩ hP hS dX12_bars_53
  · have hl : lv_has ls 3 [(0, .ref (q 0)), (1, .int (iI 3)), (2, .int (iI x2))] := hl
    refine lv_aload_n hx hb dX12_bars_0 rfl (lv_at hl 0 rfl) ?_
    refine va_get (D := (dC, dI)) (ci := 12) (v := .int (iI (A 0 8))) (C := RX12) (T := TX12) (N := 85) hx hb hts hiX12 hown hK hP 0 wm0 rfl 8 (by decide) (hts _ (List.mem_cons_of_mem _ (wl_in_0 _ (List.mem_of_getElem? (i := 16) rfl)))) (fun _ h9 => h9) rfl dX12_bars_1 ?_
    have r_A_0_8 : (0 : Int) ≤ (A 0 8) ∧ (A 0 8) ≤ 5 := hI 0 8
    refine lv_if_ne (tgt := 53) hx hb dX12_bars_4 (by decide) (fun c43 => ?_) (fun c43 => ?_)
    · have c43 : ¬ (A 0 8) = 0 := mt (i_eq0 (rb r_A_0_8 (by decide) (by decide))).mpr c43
      exact RET _ _ _ _ _ ⟨hI, fr.rf, trivial⟩ hP hS dX12_bars_53
    · have c43 : (A 0 8) = 0 := (i_eq0 (rb r_A_0_8 (by decide) (by decide))).mp c43
      refine lv_aload_n hx hb dX12_bars_7 rfl (lv_at hl 0 rfl) ?_
      refine va_get (D := (dC, dI)) (ci := 12) (v := .int (iI (A 0 3))) (C := RX12) (T := TX12) (N := 85) hx hb hts hiX12 hown hK hP 0 wm0 rfl 3 (by decide) (hts _ (List.mem_cons_of_mem _ (wl_in_0 _ (List.mem_of_getElem? (i := 24) rfl)))) (fun _ h9 => h9) rfl dX12_bars_8 ?_
      have r_A_0_3 : (0 : Int) ≤ (A 0 3) ∧ (A 0 3) ≤ 3 := hI 0 3
      refine lv_iconst (v := iI 1) hx hb dX12_bars_11 (by decide +kernel) ?_
      refine lv_icmp_ne (tgt := 53) hx hb dX12_bars_12 (by decide) (fun c44 => ?_) (fun c44 => ?_)
      · have c44 : ¬ (A 0 3) = 1 := mt (i_eq (rb r_A_0_3 (by decide) (by decide)) ⟨by decide, by decide⟩).mpr c44
        exact RET _ _ _ _ _ ⟨hI, fr.rf, trivial⟩ hP hS dX12_bars_53
      · have c44 : (A 0 3) = 1 := (i_eq (rb r_A_0_3 (by decide) (by decide)) ⟨by decide, by decide⟩).mp c44
        refine lv_aload_n hx hb dX12_bars_15 rfl (lv_at hl 0 rfl) ?_
        refine lv_aload_n hx hb dX12_bars_16 rfl (lv_at hl 0 rfl) ?_
        refine va_get (D := (dC, dI)) (ci := 12) (v := .long (jI (A 0 7))) (C := RX12) (T := TX12) (N := 85) hx hb hts hiX12 hown hK hP 0 wm0 rfl 7 (by decide) (hts _ (List.mem_cons_of_mem _ (wl_in_0 _ (List.mem_of_getElem? (i := 26) rfl)))) (fun _ h9 => h9) rfl dX12_bars_17 ?_
        have r_A_0_7 : (-9223372036854775808 : Int) ≤ (A 0 7) ∧ (A 0 7) ≤ 9223372036854775807 := hI 0 7
        refine x_calli (As := [.long (jI (A 0 7))]) (rest := []) ⟨hx, hb, hml, hown, hts⟩ (mc_X12_isOwn l dC dI cB cI cJ cZ cQ q _ (A 0 7) hI r_A_0_7) (cwV 1 hts (goodV (wl_in_2 _ (List.mem_of_getElem? (i := 23) rfl)) (wl_in_2 _ (List.mem_of_getElem? (i := 24) rfl)) (wl_in_2 _ (List.mem_of_getElem? (i := 25) rfl)) (wl_in_0 _ (List.mem_of_getElem? (i := 8) rfl)) (wl_in_0 _ (List.mem_of_getElem? (i := 43) rfl))) rfl rfl rfl (by decide +kernel) ⟨Nat.le_of_ble_eq_true rfl, Nat.le_of_ble_eq_true rfl⟩) hK hDD hA0 hP hS 0 12 wm0 rfl rfl hl.1 (Nat.le_of_ble_eq_true rfl) dX12_bars_20 (fun z45 A46 H locs hw47 hP hS => ?_)
        obtain ⟨rfl, hw47⟩ := hw47
        refine lv_if_ne (tgt := 53) hx hb dX12_bars_23 (by decide) (fun c48 => ?_) (fun c48 => ?_)
        · have c48 : ¬ z45 = 0 := mt (i_eq0 (rb hw47 (by decide) (by decide))).mpr c48
          exact RET _ _ _ _ _ ⟨hI, fr.rf, trivial⟩ hP hS dX12_bars_53
        · have c48 : z45 = 0 := (i_eq0 (rb hw47 (by decide) (by decide))).mp c48
          refine lv_iload_n hx hb dX12_bars_26 rfl (lv_at hl 2 rfl) ?_
          refine lv_iconst (v := iI (-1)) hx hb dX12_bars_27 (by decide +kernel) ?_
          refine lv_icmp_eq (tgt := 53) hx hb dX12_bars_28 (by decide) (fun c49 => ?_) (fun c49 => ?_)
          · have c49 : x2 = (-1) := (i_eq hx2 ⟨by decide, by decide⟩).mp c49
            exact RET _ _ _ _ _ ⟨hI, fr.rf, trivial⟩ hP hS dX12_bars_53
          · have c49 : ¬ x2 = (-1) := mt (i_eq hx2 ⟨by decide, by decide⟩).mpr c49
            refine lv_aload_n hx hb dX12_bars_31 rfl (lv_at hl 0 rfl) ?_
            refine lv_iload_n hx hb dX12_bars_32 rfl (lv_at hl 1 rfl) ?_
            refine lv_aload_n hx hb dX12_bars_33 rfl (lv_at hl 0 rfl) ?_
            refine va_get (D := (dC, dI)) (ci := 12) (v := .long (jI (A 0 7))) (C := RX12) (T := TX12) (N := 85) hx hb hts hiX12 hown hK hP 0 wm0 rfl 7 (by decide) (hts _ (List.mem_cons_of_mem _ (wl_in_0 _ (List.mem_of_getElem? (i := 26) rfl)))) (fun _ h9 => h9) rfl dX12_bars_34 ?_
            refine x_calli (As := [.int (iI 3), .long (jI (A 0 7))]) (rest := []) ⟨hx, hb, hml, hown, hts⟩ (mc_X12_named l dC dI cB cI cJ cZ cQ q _ 3 (A 0 7) hI ⟨by decide, by decide⟩ r_A_0_7) (cwV 2 hts (goodV (wl_in_2 _ (List.mem_of_getElem? (i := 26) rfl)) (wl_in_2 _ (List.mem_of_getElem? (i := 27) rfl)) (wl_in_2 _ (List.mem_of_getElem? (i := 28) rfl)) (wl_in_0 _ (List.mem_of_getElem? (i := 8) rfl)) (wl_in_1 _ (List.mem_of_getElem? (i := 10) rfl))) rfl rfl rfl (by decide +kernel) ⟨Nat.le_of_ble_eq_true rfl, Nat.le_of_ble_eq_true rfl⟩) hK hDD hA0 hP hS 0 12 wm0 rfl rfl hl.1 (Nat.le_of_ble_eq_true rfl) dX12_bars_37 (fun z50 A51 H locs hw52 hP hS => ?_)
            obtain ⟨rfl, hw52⟩ := hw52
            have hw52 := hw52.2
            have hw52 : -1 ≤ z50 ∧ z50 ≤ 2 := ⟨hw52.1, hw52.2.2.2.2.1 rfl⟩
            refine lv_iload_n hx hb dX12_bars_40 rfl (lv_at hl 2 rfl) ?_
            refine lv_icmp_ne (tgt := 53) hx hb dX12_bars_41 (by decide) (fun c53 => ?_) (fun c53 => ?_)
            · have c53 : ¬ z50 = x2 := mt (i_eq (rb hw52 (by decide) (by decide)) hx2).mpr c53
              exact RET _ _ _ _ _ ⟨hI, fr.rf, trivial⟩ hP hS dX12_bars_53
            · have c53 : z50 = x2 := (i_eq (rb hw52 (by decide) (by decide)) hx2).mp c53
              refine lv_aload_n hx hb dX12_bars_44 rfl (lv_at hl 0 rfl) ?_
              refine lv_iconst (v := iI 3) hx hb dX12_bars_45 (by decide +kernel) ?_
              refine lv_aload_n hx hb dX12_bars_46 rfl (lv_at hl 0 rfl) ?_
              refine va_get (D := (dC, dI)) (ci := 12) (v := .int (iI (A 0 4))) (C := RX12) (T := TX12) (N := 85) hx hb hts hiX12 hown hK hP 0 wm0 rfl 4 (by decide) (hts _ (List.mem_cons_of_mem _ (wl_in_0 _ (List.mem_of_getElem? (i := 23) rfl)))) (fun _ h9 => h9) rfl dX12_bars_47 ?_
              have r_A_0_4 : (0 : Int) ≤ (A 0 4) ∧ (A 0 4) ≤ 1600 := hI 0 4
              refine x_callv (As := [.int (iI 3), .int (iI (A 0 4))]) (rest := []) ⟨hx, hb, hml, hown, hts⟩ (mc_X12_blame l dC dI cB cI cJ cZ cQ q _ 3 (A 0 4) hI ⟨by decide, by decide⟩ r_A_0_4) (cwV 2 hts (goodV (wl_in_0 _ (List.mem_of_getElem? (i := 31) rfl)) (wl_in_0 _ (List.mem_of_getElem? (i := 32) rfl)) (wl_in_0 _ (List.mem_of_getElem? (i := 33) rfl)) (wl_in_0 _ (List.mem_of_getElem? (i := 8) rfl)) (wl_in_0 _ (List.mem_of_getElem? (i := 15) rfl))) rfl rfl rfl (by decide +kernel) ⟨Nat.le_of_ble_eq_true rfl, Nat.le_of_ble_eq_true rfl⟩) hK hDD hA0 hP hS 0 12 wm0 rfl rfl hl.1 (Nat.le_of_ble_eq_true rfl) dX12_bars_50 (fun A54 H locs hw55 hP hS => ?_)
              obtain ⟨_, hI, hf56, hw55⟩ := hw55
              have r_A54_0_8 : (0 : Int) ≤ (A54 0 8) ∧ (A54 0 8) ≤ 5 := hI 0 8
              exact RET _ _ _ _ _ ⟨hI, fr.trans (fr.rf) hf56 rfl rfl, trivial⟩ hP hS dX12_bars_53
  · have hl : lv_has ls 3 [(0, .ref (q 0)), (1, .int (iI 4)), (2, .int (iI x2))] := hl
    refine lv_aload_n hx hb dX12_bars_0 rfl (lv_at hl 0 rfl) ?_
    refine va_get (D := (dC, dI)) (ci := 12) (v := .int (iI (A 0 8))) (C := RX12) (T := TX12) (N := 85) hx hb hts hiX12 hown hK hP 0 wm0 rfl 8 (by decide) (hts _ (List.mem_cons_of_mem _ (wl_in_0 _ (List.mem_of_getElem? (i := 16) rfl)))) (fun _ h9 => h9) rfl dX12_bars_1 ?_
    have r_A_0_8 : (0 : Int) ≤ (A 0 8) ∧ (A 0 8) ≤ 5 := hI 0 8
    refine lv_if_ne (tgt := 53) hx hb dX12_bars_4 (by decide) (fun c57 => ?_) (fun c57 => ?_)
    · have c57 : ¬ (A 0 8) = 0 := mt (i_eq0 (rb r_A_0_8 (by decide) (by decide))).mpr c57
      exact RET _ _ _ _ _ ⟨hI, fr.rf, trivial⟩ hP hS dX12_bars_53
    · have c57 : (A 0 8) = 0 := (i_eq0 (rb r_A_0_8 (by decide) (by decide))).mp c57
      refine lv_aload_n hx hb dX12_bars_7 rfl (lv_at hl 0 rfl) ?_
      refine va_get (D := (dC, dI)) (ci := 12) (v := .int (iI (A 0 3))) (C := RX12) (T := TX12) (N := 85) hx hb hts hiX12 hown hK hP 0 wm0 rfl 3 (by decide) (hts _ (List.mem_cons_of_mem _ (wl_in_0 _ (List.mem_of_getElem? (i := 24) rfl)))) (fun _ h9 => h9) rfl dX12_bars_8 ?_
      have r_A_0_3 : (0 : Int) ≤ (A 0 3) ∧ (A 0 3) ≤ 3 := hI 0 3
      refine lv_iconst (v := iI 1) hx hb dX12_bars_11 (by decide +kernel) ?_
      refine lv_icmp_ne (tgt := 53) hx hb dX12_bars_12 (by decide) (fun c58 => ?_) (fun c58 => ?_)
      · have c58 : ¬ (A 0 3) = 1 := mt (i_eq (rb r_A_0_3 (by decide) (by decide)) ⟨by decide, by decide⟩).mpr c58
        exact RET _ _ _ _ _ ⟨hI, fr.rf, trivial⟩ hP hS dX12_bars_53
      · have c58 : (A 0 3) = 1 := (i_eq (rb r_A_0_3 (by decide) (by decide)) ⟨by decide, by decide⟩).mp c58
        refine lv_aload_n hx hb dX12_bars_15 rfl (lv_at hl 0 rfl) ?_
        refine lv_aload_n hx hb dX12_bars_16 rfl (lv_at hl 0 rfl) ?_
        refine va_get (D := (dC, dI)) (ci := 12) (v := .long (jI (A 0 7))) (C := RX12) (T := TX12) (N := 85) hx hb hts hiX12 hown hK hP 0 wm0 rfl 7 (by decide) (hts _ (List.mem_cons_of_mem _ (wl_in_0 _ (List.mem_of_getElem? (i := 26) rfl)))) (fun _ h9 => h9) rfl dX12_bars_17 ?_
        have r_A_0_7 : (-9223372036854775808 : Int) ≤ (A 0 7) ∧ (A 0 7) ≤ 9223372036854775807 := hI 0 7
        refine x_calli (As := [.long (jI (A 0 7))]) (rest := []) ⟨hx, hb, hml, hown, hts⟩ (mc_X12_isOwn l dC dI cB cI cJ cZ cQ q _ (A 0 7) hI r_A_0_7) (cwV 1 hts (goodV (wl_in_2 _ (List.mem_of_getElem? (i := 23) rfl)) (wl_in_2 _ (List.mem_of_getElem? (i := 24) rfl)) (wl_in_2 _ (List.mem_of_getElem? (i := 25) rfl)) (wl_in_0 _ (List.mem_of_getElem? (i := 8) rfl)) (wl_in_0 _ (List.mem_of_getElem? (i := 43) rfl))) rfl rfl rfl (by decide +kernel) ⟨Nat.le_of_ble_eq_true rfl, Nat.le_of_ble_eq_true rfl⟩) hK hDD hA0 hP hS 0 12 wm0 rfl rfl hl.1 (Nat.le_of_ble_eq_true rfl) dX12_bars_20 (fun z59 A60 H locs hw61 hP hS => ?_)
        obtain ⟨rfl, hw61⟩ := hw61
        refine lv_if_ne (tgt := 53) hx hb dX12_bars_23 (by decide) (fun c62 => ?_) (fun c62 => ?_)
        · have c62 : ¬ z59 = 0 := mt (i_eq0 (rb hw61 (by decide) (by decide))).mpr c62
          exact RET _ _ _ _ _ ⟨hI, fr.rf, trivial⟩ hP hS dX12_bars_53
        · have c62 : z59 = 0 := (i_eq0 (rb hw61 (by decide) (by decide))).mp c62
          refine lv_iload_n hx hb dX12_bars_26 rfl (lv_at hl 2 rfl) ?_
          refine lv_iconst (v := iI (-1)) hx hb dX12_bars_27 (by decide +kernel) ?_
          refine lv_icmp_eq (tgt := 53) hx hb dX12_bars_28 (by decide) (fun c63 => ?_) (fun c63 => ?_)
          · have c63 : x2 = (-1) := (i_eq hx2 ⟨by decide, by decide⟩).mp c63
            exact RET _ _ _ _ _ ⟨hI, fr.rf, trivial⟩ hP hS dX12_bars_53
          · have c63 : ¬ x2 = (-1) := mt (i_eq hx2 ⟨by decide, by decide⟩).mpr c63
            refine lv_aload_n hx hb dX12_bars_31 rfl (lv_at hl 0 rfl) ?_
            refine lv_iload_n hx hb dX12_bars_32 rfl (lv_at hl 1 rfl) ?_
            refine lv_aload_n hx hb dX12_bars_33 rfl (lv_at hl 0 rfl) ?_
            refine va_get (D := (dC, dI)) (ci := 12) (v := .long (jI (A 0 7))) (C := RX12) (T := TX12) (N := 85) hx hb hts hiX12 hown hK hP 0 wm0 rfl 7 (by decide) (hts _ (List.mem_cons_of_mem _ (wl_in_0 _ (List.mem_of_getElem? (i := 26) rfl)))) (fun _ h9 => h9) rfl dX12_bars_34 ?_
            refine x_calli (As := [.int (iI 4), .long (jI (A 0 7))]) (rest := []) ⟨hx, hb, hml, hown, hts⟩ (mc_X12_named l dC dI cB cI cJ cZ cQ q _ 4 (A 0 7) hI ⟨by decide, by decide⟩ r_A_0_7) (cwV 2 hts (goodV (wl_in_2 _ (List.mem_of_getElem? (i := 26) rfl)) (wl_in_2 _ (List.mem_of_getElem? (i := 27) rfl)) (wl_in_2 _ (List.mem_of_getElem? (i := 28) rfl)) (wl_in_0 _ (List.mem_of_getElem? (i := 8) rfl)) (wl_in_1 _ (List.mem_of_getElem? (i := 10) rfl))) rfl rfl rfl (by decide +kernel) ⟨Nat.le_of_ble_eq_true rfl, Nat.le_of_ble_eq_true rfl⟩) hK hDD hA0 hP hS 0 12 wm0 rfl rfl hl.1 (Nat.le_of_ble_eq_true rfl) dX12_bars_37 (fun z64 A65 H locs hw66 hP hS => ?_)
            obtain ⟨rfl, hw66⟩ := hw66
            have hw66 := hw66.2
            have hw66 : -1 ≤ z64 ∧ z64 ≤ 3 := ⟨hw66.1, hw66.2.2.2.2.2 rfl⟩
            refine lv_iload_n hx hb dX12_bars_40 rfl (lv_at hl 2 rfl) ?_
            refine lv_icmp_ne (tgt := 53) hx hb dX12_bars_41 (by decide) (fun c67 => ?_) (fun c67 => ?_)
            · have c67 : ¬ z64 = x2 := mt (i_eq (rb hw66 (by decide) (by decide)) hx2).mpr c67
              exact RET _ _ _ _ _ ⟨hI, fr.rf, trivial⟩ hP hS dX12_bars_53
            · have c67 : z64 = x2 := (i_eq (rb hw66 (by decide) (by decide)) hx2).mp c67
              refine lv_aload_n hx hb dX12_bars_44 rfl (lv_at hl 0 rfl) ?_
              refine lv_iconst (v := iI 3) hx hb dX12_bars_45 (by decide +kernel) ?_
              refine lv_aload_n hx hb dX12_bars_46 rfl (lv_at hl 0 rfl) ?_
              refine va_get (D := (dC, dI)) (ci := 12) (v := .int (iI (A 0 4))) (C := RX12) (T := TX12) (N := 85) hx hb hts hiX12 hown hK hP 0 wm0 rfl 4 (by decide) (hts _ (List.mem_cons_of_mem _ (wl_in_0 _ (List.mem_of_getElem? (i := 23) rfl)))) (fun _ h9 => h9) rfl dX12_bars_47 ?_
              have r_A_0_4 : (0 : Int) ≤ (A 0 4) ∧ (A 0 4) ≤ 1600 := hI 0 4
              refine x_callv (As := [.int (iI 3), .int (iI (A 0 4))]) (rest := []) ⟨hx, hb, hml, hown, hts⟩ (mc_X12_blame l dC dI cB cI cJ cZ cQ q _ 3 (A 0 4) hI ⟨by decide, by decide⟩ r_A_0_4) (cwV 2 hts (goodV (wl_in_0 _ (List.mem_of_getElem? (i := 31) rfl)) (wl_in_0 _ (List.mem_of_getElem? (i := 32) rfl)) (wl_in_0 _ (List.mem_of_getElem? (i := 33) rfl)) (wl_in_0 _ (List.mem_of_getElem? (i := 8) rfl)) (wl_in_0 _ (List.mem_of_getElem? (i := 15) rfl))) rfl rfl rfl (by decide +kernel) ⟨Nat.le_of_ble_eq_true rfl, Nat.le_of_ble_eq_true rfl⟩) hK hDD hA0 hP hS 0 12 wm0 rfl rfl hl.1 (Nat.le_of_ble_eq_true rfl) dX12_bars_50 (fun A68 H locs hw69 hP hS => ?_)
              obtain ⟨_, hI, hf70, hw69⟩ := hw69
              have r_A68_0_8 : (0 : Int) ≤ (A68 0 8) ∧ (A68 0 8) ≤ 5 := hI 0 8
              exact RET _ _ _ _ _ ⟨hI, fr.trans (fr.rf) hf70 rfl rfl, trivial⟩ hP hS dX12_bars_53

def ws_mc_X12_place : List Cond := .code yX12_place cX12_place 1 none :: WX
set_option maxHeartbeats 4000000 in
set_option maxRecDepth 100000 in
theorem mc_X12_place (l : Launch) (dC : Nat → ClassId) (dI : Nat → Nat → Nat) (cB cI cJ cZ cQ : ClassId) (q : Nat → Nat) (A : St) (hI : IM A) : XMv l yX12_place ws_mc_X12_place ({ frames := 3, cells := 0, slots := 0, locals := 70 } : Room) (dC, dI) (tyA cB cI cJ cZ cQ) (WM cI cJ cZ q) A [.ref (q 0)] (fun u => IM u ∧ fr [2, 3] [3, 4, 5, 6, 7, 8, 9] A u ∧ (True)) := by
  refine x_metv (cc := cX12_place) (maxL := 1) WM_adr (by decide +kernel) rfl (Nat.le_of_ble_eq_true rfl) (fun p e s m below meth c Q AS ls hx hb hml hown hts hK hDD hA0 hP hS hl RET => ?_)
  have hown : s.vm.findClass RX12 = some m.cls := hown
  have hl : lv_has ls 1 [(0, .ref (q 0))] := hl
  have hiX12 : ∀ w ∈ u_ws RX12 TX12 85, w ∈ ws_mc_X12_place := fun w h => List.mem_cons_of_mem _ (wx_lay w h)
  obtain ⟨H, hHe⟩ : ∃ H : Heap, H = s.heap := ⟨_, rfl⟩
  rw [← hHe] at hP
  have hS : va_S AS s.heap H [] := by rw [hHe]; exact hS
  suffices hgo : ∀ locs : List Loc, va_S AS s.heap H locs → W p l e (headSpec ws_mc_X12_place ({ frames := 3, cells := 0, slots := 0, locals := 70 } : Room)).room s m [.ref (q 0)].toArray below meth c H locs 0 0 Q (F0 m 0 ls []) by
    have := hgo [] hS
    rw [hHe] at this
    exact this
  clear hS hHe
  intro locs hS
  refine lv_aload_n hx hb dX12_place_0 rfl (lv_at hl 0 rfl) ?_
  refine lv_aload_n hx hb dX12_place_1 rfl (lv_at hl 0 rfl) ?_
  refine va_get (D := (dC, dI)) (ci := 12) (v := .ref (q 2)) (C := RX12) (T := TX12) (N := 85) hx hb hts hiX12 hown hK hP 0 wm0 rfl 13 (by decide) (hts _ (List.mem_cons_of_mem _ (wl_in_1 _ (List.mem_of_getElem? (i := 11) rfl)))) (fun _ h9 => h9) rfl dX12_place_2 ?_
  refine lv_aload_n hx hb dX12_place_5 rfl (lv_at hl 0 rfl) ?_
  refine va_get (D := (dC, dI)) (ci := 12) (v := .int (iI (A 0 47))) (C := RX12) (T := TX12) (N := 85) hx hb hts hiX12 hown hK hP 0 wm0 rfl 47 (by decide) (hts _ (List.mem_cons_of_mem _ (wl_in_1 _ (List.mem_of_getElem? (i := 12) rfl)))) (fun _ h9 => h9) rfl dX12_place_6 ?_
  have r_A_0_47 : (0 : Int) ≤ (A 0 47) ∧ (A 0 47) ≤ 1 := hI 0 47
  refine x_iald hx hb hK hP 2 1 wm2 rfl (by omega) (by decide) dX12_place_9 (fun z1 hz1 => ?_)
  have rz1 : (0 : Int) ≤ z1 ∧ z1 ≤ 8 := by rw [hz1]; exact hI 2 _
  have hz1 : z1 = A 2 ((A 0 47)).toNat := hz1
  refine lv_bipush (v := iI 8) hx hb dX12_place_10 (by decide +kernel) ?_
  have J20_3 : ∀ (z4 : Int) (H : Heap) (locs : List Loc) (ls : Array Slot), (0 ≤ z4 ∧ z4 ≤ 1) → ((z4 = 0 ∧ ¬ z1 = 8) ∨ (z4 = 1 ∧ z1 = 8)) → va_P (dC, dI) vwCl (WM cI cJ cZ q A) H → va_S AS s.heap H locs → lv_has ls 1 [(0, .ref (q 0))] → W p l e (headSpec ws_mc_X12_place ({ frames := 3, cells := 0, slots := 0, locals := 70 } : Room)).room s m [.ref (q 0)].toArray below meth c H locs 0 0 Q (F0 m 20 ls [.int (iI z4), .ref (q 0)]) := by
    intro z4 H locs ls f6 f7 hP hS hl
    refine x_calli (As := [.int (iI z4)]) (rest := []) ⟨hx, hb, hml, hown, hts⟩ (mc_X12_counts l dC dI cB cI cJ cZ cQ q _ z4 hI f6) (cwV 1 hts (goodV (wl_in_2 _ (List.mem_of_getElem? (i := 32) rfl)) (wl_in_2 _ (List.mem_of_getElem? (i := 33) rfl)) (wl_in_2 _ (List.mem_of_getElem? (i := 34) rfl)) (wl_in_0 _ (List.mem_of_getElem? (i := 8) rfl)) (wl_in_2 _ (List.mem_of_getElem? (i := 20) rfl))) rfl rfl rfl (by decide +kernel) ⟨Nat.le_of_ble_eq_true rfl, Nat.le_of_ble_eq_true rfl⟩) hK hDD hA0 hP hS 0 12 wm0 rfl rfl hl.1 (Nat.le_of_ble_eq_true rfl) dX12_place_20 (fun z8 A9 H locs hw10 hP hS => ?_)
    obtain ⟨hI, hf11, hw10⟩ := hw10
    have r_A9_0_8 : (0 : Int) ≤ (A9 0 8) ∧ (A9 0 8) ≤ 5 := hI 0 8
    have rz8 : 0 ≤ z8 ∧ z8 ≤ 1 := hw10.1
    refine lv_if_ne (tgt := 27) hx hb dX12_place_23 (by decide) (fun c12 => ?_) (fun c12 => ?_)
    · have c12 : ¬ z8 = 0 := mt (i_eq0 (rb rz8 (by decide) (by decide))).mpr c12
      refine lv_aload_n hx hb dX12_place_27 rfl (lv_at hl 0 rfl) ?_
      refine va_get (D := (dC, dI)) (ci := 12) (v := .ref (q 3)) (C := RX12) (T := TX12) (N := 85) hx hb hts hiX12 hown hK hP 0 wm0 rfl 14 (by decide) (hts _ (List.mem_cons_of_mem _ (wl_in_1 _ (List.mem_of_getElem? (i := 21) rfl)))) (fun _ h9 => h9) rfl dX12_place_28 ?_
      refine lv_bipush (v := iI 8) hx hb dX12_place_31 (by decide +kernel) ?_
      refine lv_aload_n hx hb dX12_place_33 rfl (lv_at hl 0 rfl) ?_
      have e_A9_47 : A9 0 47 = (A 0 47) := (hf11.2 47 rfl)
      refine va_get (D := (dC, dI)) (ci := 12) (v := .int (iI (A9 0 47))) (C := RX12) (T := TX12) (N := 85) hx hb hts hiX12 hown hK hP 0 wm0 rfl 47 (by decide) (hts _ (List.mem_cons_of_mem _ (wl_in_1 _ (List.mem_of_getElem? (i := 12) rfl)))) (fun _ h9 => h9) rfl dX12_place_34 ?_
      refine tp_i (y := iI (A 0 47)) (congrArg iI e_A9_47) ?_
      refine x_mulv (v := 8 * (A 0 47)) hx hb dX12_place_37 (by omega) ?_
      refine lv_aload_n hx hb dX12_place_38 rfl (lv_at hl 0 rfl) ?_
      refine va_get (D := (dC, dI)) (ci := 12) (v := .ref (q 2)) (C := RX12) (T := TX12) (N := 85) hx hb hts hiX12 hown hK hP 0 wm0 rfl 13 (by decide) (hts _ (List.mem_cons_of_mem _ (wl_in_1 _ (List.mem_of_getElem? (i := 11) rfl)))) (fun _ h9 => h9) rfl dX12_place_39 ?_
      refine lv_aload_n hx hb dX12_place_42 rfl (lv_at hl 0 rfl) ?_
      refine va_get (D := (dC, dI)) (ci := 12) (v := .int (iI (A9 0 47))) (C := RX12) (T := TX12) (N := 85) hx hb hts hiX12 hown hK hP 0 wm0 rfl 47 (by decide) (hts _ (List.mem_cons_of_mem _ (wl_in_1 _ (List.mem_of_getElem? (i := 12) rfl)))) (fun _ h9 => h9) rfl dX12_place_43 ?_
      refine tp_i (y := iI (A 0 47)) (congrArg iI e_A9_47) ?_
      have a_A9_2 : A9 2 = A 2 := (hf11.1 2 (by decide) rfl)
      refine x_iald hx hb hK hP 2 1 wm2 rfl (by omega) (by decide) dX12_place_46 (fun z13 hz13 => ?_)
      have rz13 : (0 : Int) ≤ z13 ∧ z13 ≤ 8 := by rw [hz13]; exact hI 2 _
      have hz13 : z13 = A 2 ((A 0 47)).toNat := hz13.trans (congrFun a_A9_2 _)
      have ez13 : z13 = z1 := hz13.trans hz1.symm
      refine x_addv (v := 8 * (A 0 47) + z13) hx hb dX12_place_47 (by omega) ?_
      refine lv_aload_n hx hb dX12_place_48 rfl (lv_at hl 0 rfl) ?_
      refine x_calll (As := []) (rest := [.int (iI (8 * (A 0 47) + z13)), .ref (q 3)]) ⟨hx, hb, hml, hown, hts⟩ (mc_X12_fresh l dC dI cB cI cJ cZ cQ q _ hI) (cwV 0 hts (goodV (wl_in_2 _ (List.mem_of_getElem? (i := 35) rfl)) (wl_in_2 _ (List.mem_of_getElem? (i := 36) rfl)) (wl_in_2 _ (List.mem_of_getElem? (i := 37) rfl)) (wl_in_0 _ (List.mem_of_getElem? (i := 8) rfl)) (wl_in_2 _ (List.mem_of_getElem? (i := 22) rfl))) rfl rfl rfl (by decide +kernel) ⟨Nat.le_of_ble_eq_true rfl, Nat.le_of_ble_eq_true rfl⟩) hK hDD hA0 hP hS 0 12 wm0 rfl rfl hl.1 (Nat.le_of_ble_eq_true rfl) dX12_place_49 (fun z14 A15 H locs hw16 hP hS => ?_)
      obtain ⟨hI, hf17, hw16⟩ := hw16
      refine x_last hx hb hK hP hDD hS 3 2 wm3 rfl (by omega) (by decide) dX12_place_52 ws3 (fun H locs hP hS => ?_)
      have hI := hI.st (j := 3) (i := (8 * (A 0 47) + z13).toNat) (v := z14) (show (-9223372036854775808 : Int) ≤ z14 ∧ z14 ≤ 9223372036854775807 from (by omega))
      refine lv_aload_n hx hb dX12_place_53 rfl (lv_at hl 0 rfl) ?_
      refine va_get (D := (dC, dI)) (ci := 12) (v := .int (iI (A15 0 8))) (C := RX12) (T := TX12) (N := 85) hx hb hts hiX12 hown hK hP 0 wm0 rfl 8 (by decide) (hts _ (List.mem_cons_of_mem _ (wl_in_0 _ (List.mem_of_getElem? (i := 16) rfl)))) (fun _ h9 => h9) rfl dX12_place_54 ?_
      have r_A15_0_8 : (0 : Int) ≤ (A15 0 8) ∧ (A15 0 8) ≤ 5 := hI 0 8
      refine lv_if_ne (tgt := 73) hx hb dX12_place_57 (by decide) (fun c18 => ?_) (fun c18 => ?_)
      · have c18 : ¬ (A15 0 8) = 0 := mt (i_eq0 (rb r_A15_0_8 (by decide) (by decide))).mpr c18
        exact RET _ _ _ _ _ ⟨hI, fr.st (fr.trans (fr.trans (fr.rf) hf11 rfl rfl) hf17 rfl rfl) (by decide) rfl, trivial⟩ hP hS dX12_place_73
      · have c18 : (A15 0 8) = 0 := (i_eq0 (rb r_A15_0_8 (by decide) (by decide))).mp c18
        refine lv_aload_n hx hb dX12_place_60 rfl (lv_at hl 0 rfl) ?_
        refine va_get (D := (dC, dI)) (ci := 12) (v := .ref (q 2)) (C := RX12) (T := TX12) (N := 85) hx hb hts hiX12 hown hK hP 0 wm0 rfl 13 (by decide) (hts _ (List.mem_cons_of_mem _ (wl_in_1 _ (List.mem_of_getElem? (i := 11) rfl)))) (fun _ h9 => h9) rfl dX12_place_61 ?_
        refine lv_aload_n hx hb dX12_place_64 rfl (lv_at hl 0 rfl) ?_
        have e_A15_47 : A15 0 47 = (A 0 47) := (hf17.2 47 rfl).trans e_A9_47
        refine va_get (D := (dC, dI)) (ci := 12) (v := .int (iI (A15 0 47))) (C := RX12) (T := TX12) (N := 85) hx hb hts hiX12 hown hK hP 0 wm0 rfl 47 (by decide) (hts _ (List.mem_cons_of_mem _ (wl_in_1 _ (List.mem_of_getElem? (i := 12) rfl)))) (fun _ h9 => h9) rfl dX12_place_65 ?_
        refine tp_i (y := iI (A 0 47)) (congrArg iI e_A15_47) ?_
        refine lv_dup2_11 hx hb dX12_place_68 rfl rfl ?_
        have a_A15_2 : A15 2 = A 2 := (hf17.1 2 (by decide) rfl).trans a_A9_2
        refine x_iald hx hb hK hP 2 1 wm2 rfl (by omega) (by decide) dX12_place_69 (fun z19 hz19 => ?_)
        have rz19 : (0 : Int) ≤ z19 ∧ z19 ≤ 8 := by rw [hz19]; exact hI 2 _
        have hz19 : z19 = A 2 ((A 0 47)).toNat := hz19.trans (congrFun a_A15_2 _)
        have ez19 : z19 = z1 := hz19.trans hz1.symm
        refine lv_iconst (v := iI 1) hx hb dX12_place_70 (by decide +kernel) ?_
        refine x_addv (v := z19 + 1) hx hb dX12_place_71 (by omega) ?_
        refine x_iast hx hb hK hP hDD hS 2 1 wm2 rfl (by omega) (by decide) dX12_place_72 ws2 (fun H locs hP hS => ?_)
        have hI := hI.st (j := 2) (i := ((A 0 47)).toNat) (v := z19 + 1) (show (0 : Int) ≤ z19 + 1 ∧ z19 + 1 ≤ 8 from (by omega))
        exact RET _ _ _ _ _ ⟨hI, fr.st (fr.st (fr.trans (fr.trans (fr.rf) hf11 rfl rfl) hf17 rfl rfl) (by decide) rfl) (by decide) rfl, trivial⟩ hP hS dX12_place_73
    · have c12 : z8 = 0 := (i_eq0 (rb rz8 (by decide) (by decide))).mp c12
      exact RET _ _ _ _ _ ⟨hI, fr.trans (fr.rf) hf11 rfl rfl, trivial⟩ hP hS dX12_place_26
  refine lv_icmp_ne (tgt := 19) hx hb dX12_place_12 (by decide) (fun c2 => ?_) (fun c2 => ?_)
  · have c2 : ¬ z1 = 8 := mt (i_eq (rb rz1 (by decide) (by decide)) ⟨by decide, by decide⟩).mpr c2
    refine lv_iconst (v := iI 0) hx hb dX12_place_19 (by decide +kernel) ?_
    exact J20_3 0 _ _ _ (by omega) (by omega) hP hS (lv_sub hl [0] rfl)
  · have c2 : z1 = 8 := (i_eq (rb rz1 (by decide) (by decide)) ⟨by decide, by decide⟩).mp c2
    refine lv_iconst (v := iI 1) hx hb dX12_place_15 (by decide +kernel) ?_
    refine lv_goto (tgt := 20) hx hb dX12_place_16 (by decide) ?_
    exact J20_3 1 _ _ _ (by omega) (by omega) hP hS (lv_sub hl [0] rfl)

def ws_mc_X12_within : List Cond := .code yX12_within cX12_within 2 (some .int) :: WX
set_option maxHeartbeats 4000000 in
set_option maxRecDepth 100000 in
theorem mc_X12_within (l : Launch) (dC : Nat → ClassId) (dI : Nat → Nat → Nat) (cB cI cJ cZ cQ : ClassId) (q : Nat → Nat) (A : St) (hI : IM A) : XMi l yX12_within ws_mc_X12_within ({ frames := 3, cells := 0, slots := 0, locals := 70 } : Room) (dC, dI) (tyA cB cI cJ cZ cQ) (WM cI cJ cZ q) A [.ref (q 0)] (fun z u => IM u ∧ fr [] [3, 4, 5, 6, 7, 8, 9] A u ∧ (0 ≤ z ∧ z ≤ 29)) := by
  refine x_meti (cc := cX12_within) (maxL := 2) WM_adr (by decide +kernel) rfl (Nat.le_of_ble_eq_true rfl) (fun p e s m below meth c Q AS ls hx hb hml hown hts hK hDD hA0 hP hS hl RET => ?_)
  have hown : s.vm.findClass RX12 = some m.cls := hown
  have hl : lv_has ls 2 [(0, .ref (q 0))] := hl
  have hiX12 : ∀ w ∈ u_ws RX12 TX12 85, w ∈ ws_mc_X12_within := fun w h => List.mem_cons_of_mem _ (wx_lay w h)
  obtain ⟨H, hHe⟩ : ∃ H : Heap, H = s.heap := ⟨_, rfl⟩
  rw [← hHe] at hP
  have hS : va_S AS s.heap H [] := by rw [hHe]; exact hS
  suffices hgo : ∀ locs : List Loc, va_S AS s.heap H locs → W p l e (headSpec ws_mc_X12_within ({ frames := 3, cells := 0, slots := 0, locals := 70 } : Room)).room s m [.ref (q 0)].toArray below meth c H locs 0 0 Q (F0 m 0 ls []) by
    have := hgo [] hS
    rw [hHe] at this
    exact this
  clear hS hHe
  intro locs hS
  refine lv_aload_n hx hb dX12_within_0 rfl (lv_at hl 0 rfl) ?_
  refine lv_ldc2 (v := 26990) hx hb hown (hts _ (List.mem_cons_of_mem _ (wl_in_0 _ (List.mem_of_getElem? (i := 49) rfl)))) dX12_within_1 ?_
  refine tp_l (y := jI 26990) (by decide +kernel) ?_
  refine x_callv (As := [.long (jI 26990)]) (rest := []) ⟨hx, hb, hml, hown, hts⟩ (mc_X12_must_ l dC dI cB cI cJ cZ cQ q _ 26990 hI ⟨by decide, by decide⟩) (cwV 1 hts (goodV (wl_in_2 _ (List.mem_of_getElem? (i := 44) rfl)) (wl_in_2 _ (List.mem_of_getElem? (i := 45) rfl)) (wl_in_2 _ (List.mem_of_getElem? (i := 46) rfl)) (wl_in_0 _ (List.mem_of_getElem? (i := 8) rfl)) (wl_in_2 _ (List.mem_of_getElem? (i := 21) rfl))) rfl rfl rfl (by decide +kernel) ⟨Nat.le_of_ble_eq_true rfl, Nat.le_of_ble_eq_true rfl⟩) hK hDD hA0 hP hS 0 12 wm0 rfl rfl hl.1 (Nat.le_of_ble_eq_true rfl) dX12_within_4 (fun A1 H locs hw2 hP hS => ?_)
  obtain ⟨hI, hf3, hw2⟩ := hw2
  clear hw2
  refine lv_aload_n hx hb dX12_within_7 rfl (lv_at hl 0 rfl) ?_
  refine va_get (D := (dC, dI)) (ci := 12) (v := .int (iI (A1 0 8))) (C := RX12) (T := TX12) (N := 85) hx hb hts hiX12 hown hK hP 0 wm0 rfl 8 (by decide) (hts _ (List.mem_cons_of_mem _ (wl_in_0 _ (List.mem_of_getElem? (i := 16) rfl)))) (fun _ h9 => h9) rfl dX12_within_8 ?_
  have r_A1_0_8 : (0 : Int) ≤ (A1 0 8) ∧ (A1 0 8) ≤ 5 := hI 0 8
  refine lv_if_le (tgt := 16) hx hb dX12_within_11 (by decide) (fun c4 => ?_) (fun c4 => ?_)
  · have c4 : (A1 0 8) ≤ 0 := (i_le0 (rb r_A1_0_8 (by decide) (by decide))).mp c4
    refine lv_aload_n hx hb dX12_within_16 rfl (lv_at hl 0 rfl) ?_
    refine va_get (D := (dC, dI)) (ci := 12) (v := .int (iI (A1 0 3))) (C := RX12) (T := TX12) (N := 85) hx hb hts hiX12 hown hK hP 0 wm0 rfl 3 (by decide) (hts _ (List.mem_cons_of_mem _ (wl_in_0 _ (List.mem_of_getElem? (i := 24) rfl)))) (fun _ h9 => h9) rfl dX12_within_17 ?_
    have r_A1_0_3 : (0 : Int) ≤ (A1 0 3) ∧ (A1 0 3) ≤ 3 := hI 0 3
    refine lv_iconst (v := iI 1) hx hb dX12_within_20 (by decide +kernel) ?_
    have J48_7 : ∀ (z16 : Int) (H : Heap) (locs : List Loc) (ls : Array Slot), (-1 ≤ z16 ∧ z16 ≤ 9) → va_P (dC, dI) vwCl (WM cI cJ cZ q A1) H → va_S AS s.heap H locs → lv_has ls 2 [(0, .ref (q 0))] → W p l e (headSpec ws_mc_X12_within ({ frames := 3, cells := 0, slots := 0, locals := 70 } : Room)).room s m [.ref (q 0)].toArray below meth c H locs 0 0 Q (F0 m 48 ls [.int (iI z16)]) := by
      intro z16 H locs ls f18 hP hS hl
      refine lv_istore_n (lv' := [(1, .int (iI z16)), (0, .ref (q 0))]) hx hb dX12_within_48 rfl hl (by decide) rfl (fun ls hl => ?_)
      refine lv_iload_n hx hb dX12_within_49 rfl (lv_at hl 0 rfl) ?_
      refine lv_iconst (v := iI (-1)) hx hb dX12_within_50 (by decide +kernel) ?_
      have J71_20 : ∀ (H : Heap) (locs : List Loc) (ls : Array Slot), va_P (dC, dI) vwCl (WM cI cJ cZ q A1) H → va_S AS s.heap H locs → lv_has ls 2 [(1, .int (iI z16)), (0, .ref (q 0))] → W p l e (headSpec ws_mc_X12_within ({ frames := 3, cells := 0, slots := 0, locals := 70 } : Room)).room s m [.ref (q 0)].toArray below meth c H locs 0 0 Q (F0 m 71 ls []) := by
        intro H locs ls hP hS hl
        refine lv_bipush (v := iI 10) hx hb dX12_within_71 (by decide +kernel) ?_
        refine lv_aload_n hx hb dX12_within_73 rfl (lv_at hl 1 rfl) ?_
        refine lv_iconst (v := iI 0) hx hb dX12_within_74 (by decide +kernel) ?_
        refine x_calli (As := [.int (iI 0)]) (rest := [.int (iI 10)]) ⟨hx, hb, hml, hown, hts⟩ (mc_X12_asked l dC dI cB cI cJ cZ cQ q _ 0 hI ⟨by decide, by decide⟩) (cwV 1 hts (goodV (wl_in_2 _ (List.mem_of_getElem? (i := 47) rfl)) (wl_in_2 _ (List.mem_of_getElem? (i := 48) rfl)) (wl_in_2 _ (List.mem_of_getElem? (i := 49) rfl)) (wl_in_0 _ (List.mem_of_getElem? (i := 8) rfl)) (wl_in_2 _ (List.mem_of_getElem? (i := 29) rfl))) rfl rfl rfl (by decide +kernel) ⟨Nat.le_of_ble_eq_true rfl, Nat.le_of_ble_eq_true rfl⟩) hK hDD hA0 hP hS 0 12 wm0 rfl rfl hl.1 (Nat.le_of_ble_eq_true rfl) dX12_within_75 (fun z27 A28 H locs hw29 hP hS => ?_)
        obtain ⟨hI, hf30, hw29⟩ := hw29
        have hw29 : 0 ≤ z27 ∧ z27 ≤ 7 := ⟨hw29.1, hw29.2.2.1 rfl⟩
        refine x_addv (v := z27 + 10) hx hb dX12_within_78 (by omega) ?_
        exact RET (z27 + 10) _ _ _ _ _ ⟨hI, fr.trans (fr.trans (fr.rf) hf3 rfl rfl) hf30 rfl rfl, by omega⟩ hP hS dX12_within_79
      refine lv_icmp_eq (tgt := 71) hx hb dX12_within_51 (by decide) (fun c19 => ?_) (fun c19 => ?_)
      · have c19 : z16 = (-1) := (i_eq (rb f18 (by decide) (by decide)) ⟨by decide, by decide⟩).mp c19
        exact J71_20 _ _ _ hP hS (lv_sub hl [0, 1] rfl)
      · have c19 : ¬ z16 = (-1) := mt (i_eq (rb f18 (by decide) (by decide)) ⟨by decide, by decide⟩).mpr c19
        refine lv_aload_n hx hb dX12_within_54 rfl (lv_at hl 1 rfl) ?_
        refine va_get (D := (dC, dI)) (ci := 12) (v := .ref (q 8)) (C := RX12) (T := TX12) (N := 85) hx hb hts hiX12 hown hK hP 0 wm0 rfl 19 (by decide) (hts _ (List.mem_cons_of_mem _ (wl_in_2 _ (List.mem_of_getElem? (i := 41) rfl)))) (fun _ h9 => h9) rfl dX12_within_55 ?_
        refine lv_bipush (v := iI 10) hx hb dX12_within_58 (by decide +kernel) ?_
        refine lv_aload_n hx hb dX12_within_60 rfl (lv_at hl 1 rfl) ?_
        have e_A1_47 : A1 0 47 = (A 0 47) := (hf3.2 47 rfl)
        refine va_get (D := (dC, dI)) (ci := 12) (v := .int (iI (A1 0 47))) (C := RX12) (T := TX12) (N := 85) hx hb hts hiX12 hown hK hP 0 wm0 rfl 47 (by decide) (hts _ (List.mem_cons_of_mem _ (wl_in_1 _ (List.mem_of_getElem? (i := 12) rfl)))) (fun _ h9 => h9) rfl dX12_within_61 ?_
        refine tp_i (y := iI (A 0 47)) (congrArg iI e_A1_47) ?_
        have r_A_0_47 : (0 : Int) ≤ (A 0 47) ∧ (A 0 47) ≤ 1 := by rw [← e_A1_47]; exact hI 0 47
        refine x_mulv (v := 10 * (A 0 47)) hx hb dX12_within_64 (by omega) ?_
        refine lv_iload_n hx hb dX12_within_65 rfl (lv_at hl 0 rfl) ?_
        refine x_addv (v := 10 * (A 0 47) + z16) hx hb dX12_within_66 (by omega) ?_
        have a_A1_8 : A1 8 = A 8 := (hf3.1 8 (by decide) rfl)
        refine x_zald hx hb hK hP 8 3 wm8 rfl (by omega) (by decide) dX12_within_67 (fun z21 hz21 => ?_)
        have rz21 : (0 : Int) ≤ z21 ∧ z21 ≤ 1 := by rw [hz21]; exact hI 8 _
        have hz21 : z21 = A 8 (10 * (A 0 47) + z16).toNat := hz21.trans (congrFun a_A1_8 _)
        refine lv_if_ne (tgt := 80) hx hb dX12_within_68 (by decide) (fun c22 => ?_) (fun c22 => ?_)
        · have c22 : ¬ z21 = 0 := mt (i_eq0 (rb rz21 (by decide) (by decide))).mpr c22
          refine lv_aload_n hx hb dX12_within_80 rfl (lv_at hl 1 rfl) ?_
          refine x_callv (As := []) (rest := []) ⟨hx, hb, hml, hown, hts⟩ (mc_X12_ahead l dC dI cB cI cJ cZ cQ q _ hI) (cwV 0 hts (goodV (wl_in_0 _ (List.mem_of_getElem? (i := 40) rfl)) (wl_in_0 _ (List.mem_of_getElem? (i := 41) rfl)) (wl_in_0 _ (List.mem_of_getElem? (i := 42) rfl)) (wl_in_0 _ (List.mem_of_getElem? (i := 8) rfl)) (wl_in_0 _ (List.mem_of_getElem? (i := 20) rfl))) rfl rfl rfl (by decide +kernel) ⟨Nat.le_of_ble_eq_true rfl, Nat.le_of_ble_eq_true rfl⟩) hK hDD hA0 hP hS 0 12 wm0 rfl rfl hl.1 (Nat.le_of_ble_eq_true rfl) dX12_within_81 (fun A23 H locs hw24 hP hS => ?_)
          obtain ⟨hI, hf25, hw24⟩ := hw24
          clear hw24
          refine lv_bipush (v := iI 20) hx hb dX12_within_84 (by decide +kernel) ?_
          refine lv_iload_n hx hb dX12_within_86 rfl (lv_at hl 0 rfl) ?_
          refine x_addv (v := z16 + 20) hx hb dX12_within_87 (by omega) ?_
          exact RET (z16 + 20) _ _ _ _ _ ⟨hI, fr.trans (fr.trans (fr.rf) hf3 rfl rfl) hf25 rfl rfl, by omega⟩ hP hS dX12_within_88
        · have c22 : z21 = 0 := (i_eq0 (rb rz21 (by decide) (by decide))).mp c22
          exact J71_20 _ _ _ hP hS (lv_sub hl [0, 1] rfl)
    have J47_6 : ∀ (H : Heap) (locs : List Loc) (ls : Array Slot), va_P (dC, dI) vwCl (WM cI cJ cZ q A1) H → va_S AS s.heap H locs → lv_has ls 2 [(0, .ref (q 0))] → W p l e (headSpec ws_mc_X12_within ({ frames := 3, cells := 0, slots := 0, locals := 70 } : Room)).room s m [.ref (q 0)].toArray below meth c H locs 0 0 Q (F0 m 47 ls []) := by
      intro H locs ls hP hS hl
      refine lv_iconst (v := iI (-1)) hx hb dX12_within_47 (by decide +kernel) ?_
      exact J48_7 (-1) _ _ _ (by omega) hP hS (lv_sub hl [0] rfl)
    refine lv_icmp_ne (tgt := 47) hx hb dX12_within_21 (by decide) (fun c5 => ?_) (fun c5 => ?_)
    · have c5 : ¬ (A1 0 3) = 1 := mt (i_eq (rb r_A1_0_3 (by decide) (by decide)) ⟨by decide, by decide⟩).mpr c5
      exact J47_6 _ _ _ hP hS (lv_sub hl [0] rfl)
    · have c5 : (A1 0 3) = 1 := (i_eq (rb r_A1_0_3 (by decide) (by decide)) ⟨by decide, by decide⟩).mp c5
      refine lv_aload_n hx hb dX12_within_24 rfl (lv_at hl 0 rfl) ?_
      refine lv_aload_n hx hb dX12_within_25 rfl (lv_at hl 0 rfl) ?_
      refine va_get (D := (dC, dI)) (ci := 12) (v := .long (jI (A1 0 7))) (C := RX12) (T := TX12) (N := 85) hx hb hts hiX12 hown hK hP 0 wm0 rfl 7 (by decide) (hts _ (List.mem_cons_of_mem _ (wl_in_0 _ (List.mem_of_getElem? (i := 26) rfl)))) (fun _ h9 => h9) rfl dX12_within_26 ?_
      have r_A1_0_7 : (-9223372036854775808 : Int) ≤ (A1 0 7) ∧ (A1 0 7) ≤ 9223372036854775807 := hI 0 7
      refine x_calli (As := [.long (jI (A1 0 7))]) (rest := []) ⟨hx, hb, hml, hown, hts⟩ (mc_X12_isOwn l dC dI cB cI cJ cZ cQ q _ (A1 0 7) hI r_A1_0_7) (cwV 1 hts (goodV (wl_in_2 _ (List.mem_of_getElem? (i := 23) rfl)) (wl_in_2 _ (List.mem_of_getElem? (i := 24) rfl)) (wl_in_2 _ (List.mem_of_getElem? (i := 25) rfl)) (wl_in_0 _ (List.mem_of_getElem? (i := 8) rfl)) (wl_in_0 _ (List.mem_of_getElem? (i := 43) rfl))) rfl rfl rfl (by decide +kernel) ⟨Nat.le_of_ble_eq_true rfl, Nat.le_of_ble_eq_true rfl⟩) hK hDD hA0 hP hS 0 12 wm0 rfl rfl hl.1 (Nat.le_of_ble_eq_true rfl) dX12_within_29 (fun z8 A9 H locs hw10 hP hS => ?_)
      obtain ⟨rfl, hw10⟩ := hw10
      refine lv_if_ne (tgt := 47) hx hb dX12_within_32 (by decide) (fun c11 => ?_) (fun c11 => ?_)
      · have c11 : ¬ z8 = 0 := mt (i_eq0 (rb hw10 (by decide) (by decide))).mpr c11
        exact J47_6 _ _ _ hP hS (lv_sub hl [0] rfl)
      · have c11 : z8 = 0 := (i_eq0 (rb hw10 (by decide) (by decide))).mp c11
        refine lv_aload_n hx hb dX12_within_35 rfl (lv_at hl 0 rfl) ?_
        refine lv_iconst (v := iI 1) hx hb dX12_within_36 (by decide +kernel) ?_
        refine lv_aload_n hx hb dX12_within_37 rfl (lv_at hl 0 rfl) ?_
        refine va_get (D := (dC, dI)) (ci := 12) (v := .long (jI (A1 0 7))) (C := RX12) (T := TX12) (N := 85) hx hb hts hiX12 hown hK hP 0 wm0 rfl 7 (by decide) (hts _ (List.mem_cons_of_mem _ (wl_in_0 _ (List.mem_of_getElem? (i := 26) rfl)))) (fun _ h9 => h9) rfl dX12_within_38 ?_
        refine x_calli (As := [.int (iI 1), .long (jI (A1 0 7))]) (rest := []) ⟨hx, hb, hml, hown, hts⟩ (mc_X12_named l dC dI cB cI cJ cZ cQ q _ 1 (A1 0 7) hI ⟨by decide, by decide⟩ r_A1_0_7) (cwV 2 hts (goodV (wl_in_2 _ (List.mem_of_getElem? (i := 26) rfl)) (wl_in_2 _ (List.mem_of_getElem? (i := 27) rfl)) (wl_in_2 _ (List.mem_of_getElem? (i := 28) rfl)) (wl_in_0 _ (List.mem_of_getElem? (i := 8) rfl)) (wl_in_1 _ (List.mem_of_getElem? (i := 10) rfl))) rfl rfl rfl (by decide +kernel) ⟨Nat.le_of_ble_eq_true rfl, Nat.le_of_ble_eq_true rfl⟩) hK hDD hA0 hP hS 0 12 wm0 rfl rfl hl.1 (Nat.le_of_ble_eq_true rfl) dX12_within_41 (fun z12 A13 H locs hw14 hP hS => ?_)
        obtain ⟨rfl, hw14⟩ := hw14
        have hw14 := hw14.2
        have hw14 : -1 ≤ z12 ∧ z12 ≤ 9 := ⟨hw14.1, hw14.2.1⟩
        refine lv_goto (tgt := 48) hx hb dX12_within_44 (by decide) ?_
        exact J48_7 z12 _ _ _ (by omega) hP hS (lv_sub hl [0] rfl)
  · have c4 : ¬ (A1 0 8) ≤ 0 := mt (i_le0 (rb r_A1_0_8 (by decide) (by decide))).mpr c4
    refine lv_iconst (v := iI 0) hx hb dX12_within_14 (by decide +kernel) ?_
    exact RET 0 _ _ _ _ _ ⟨hI, fr.trans (fr.rf) hf3 rfl rfl, by omega⟩ hP hS dX12_within_15
