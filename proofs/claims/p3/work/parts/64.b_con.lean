def ws_mb_X12_asked_0 : List Cond := .code yX12_asked cX12_asked 3 (some .int) :: WX
set_option maxHeartbeats 4000000 in
set_option maxRecDepth 100000 in
theorem mb_X12_asked_0 (l : Launch) (dC : Nat → ClassId) (dI : Nat → Nat → Nat) (cB cI cJ cZ cQ : ClassId) (q : Nat → Nat) (A : St) (x1 : Int) (hI : IM A) (hx1 : (0 : Int) ≤ x1 ∧ x1 ≤ 0) (hcCB : CB A) : XMi l yX12_asked ws_mb_X12_asked_0 ({ frames := 2, cells := 0, slots := 0, locals := 48 } : Room) (dC, dI) (tyA cB cI cJ cZ cQ) (WM cI cJ cZ q) A [.ref (q 0), .int (iI x1)] (fun z u => IM u ∧ fr [] [3, 4, 5, 6, 7, 8, 9] A u ∧ CB u ∧ (0 ≤ z ∧ z ≤ 7 ∧ A 0 4 ≤ u 0 4 ∧ Hd (u 0 8 = 0 → A 0 8 = 0 ∧ A 0 3 = 1 ∧ ownz (A 0 7) = 0 ∧ z = lk (A 3) (8 * A 0 47).toNat (A 0 7) (A 2 (A 0 47).toNat).toNat))) := by
  refine x_meti (cc := cX12_asked) (maxL := 3) WM_adr (by decide +kernel) rfl (Nat.le_of_ble_eq_true rfl) (fun p e s m below meth c Q AS ls hx hb hml hown hts hK hDD hA0 hP hS hl RET => ?_)
  have hown : s.vm.findClass RX12 = some m.cls := hown
  have hl : lv_has ls 3 [(0, .ref (q 0)), (1, .int (iI x1))] := hl
  have hiX12 : ∀ w ∈ u_ws RX12 TX12 85, w ∈ ws_mb_X12_asked_0 := fun w h => List.mem_cons_of_mem _ (wx_lay w h)
  obtain ⟨H, hHe⟩ : ∃ H : Heap, H = s.heap := ⟨_, rfl⟩
  rw [← hHe] at hP
  have hS : va_S AS s.heap H [] := by rw [hHe]; exact hS
  suffices hgo : ∀ locs : List Loc, va_S AS s.heap H locs → W p l e (headSpec ws_mb_X12_asked_0 ({ frames := 2, cells := 0, slots := 0, locals := 48 } : Room)).room s m [.ref (q 0), .int (iI x1)].toArray below meth c H locs 0 0 Q (F0 m 0 ls []) by
    have := hgo [] hS
    rw [hHe] at this
    exact this
  clear hS hHe
  intro locs hS
  have hle := CB.le hcCB
  refine lv_aload_n hx hb dX12_asked_0 rfl (lv_at hl 0 rfl) ?_
  refine va_get (D := (dC, dI)) (ci := 12) (v := .int (iI (A 0 8))) (C := RX12) (T := TX12) (N := 85) hx hb hts hiX12 hown hK hP 0 wm0 rfl 8 (by decide) (hts _ (List.mem_cons_of_mem _ (wl_in_0 _ (List.mem_of_getElem? (i := 16) rfl)))) (fun _ h9 => h9) rfl dX12_asked_1 ?_
  have r_A_0_8 : (0 : Int) ≤ (A 0 8) ∧ (A 0 8) ≤ 5 := hI 0 8
  refine lv_if_le (tgt := 9) hx hb dX12_asked_4 (by decide) (fun c1 => ?_) (fun c1 => ?_)
  · have c1 : (A 0 8) ≤ 0 := (i_le0 (rb r_A_0_8 (by decide) (by decide))).mp c1
    refine lv_aload_n hx hb dX12_asked_9 rfl (lv_at hl 0 rfl) ?_
    refine va_get (D := (dC, dI)) (ci := 12) (v := .int (iI (A 0 3))) (C := RX12) (T := TX12) (N := 85) hx hb hts hiX12 hown hK hP 0 wm0 rfl 3 (by decide) (hts _ (List.mem_cons_of_mem _ (wl_in_0 _ (List.mem_of_getElem? (i := 24) rfl)))) (fun _ h9 => h9) rfl dX12_asked_10 ?_
    have r_A_0_3 : (0 : Int) ≤ (A 0 3) ∧ (A 0 3) ≤ 3 := hI 0 3
    refine lv_iconst (v := iI 1) hx hb dX12_asked_13 (by decide +kernel) ?_
    have J37_4 : ∀ (A14 : St) (H : Heap) (locs : List Loc) (ls : Array Slot), (Hd ((A14 0 8) = 0 → A 0 3 = 1 ∧ ownz (A 0 7) = 0)) → IM A14 → fr [] [8, 9] A A14 → va_P (dC, dI) vwCl (WM cI cJ cZ q A14) H → va_S AS s.heap H locs → lv_has ls 3 [(0, .ref (q 0)), (1, .int (iI x1))] → W p l e (headSpec ws_mb_X12_asked_0 ({ frames := 2, cells := 0, slots := 0, locals := 48 } : Room)).room s m [.ref (q 0), .int (iI x1)].toArray below meth c H locs 0 0 Q (F0 m 37 ls []) := by
      intro A14 H locs ls f15 hI hj13 hP hS hl
      refine lv_aload_n hx hb dX12_asked_37 rfl (lv_at hl 0 rfl) ?_
      refine va_get (D := (dC, dI)) (ci := 12) (v := .int (iI (A14 0 8))) (C := RX12) (T := TX12) (N := 85) hx hb hts hiX12 hown hK hP 0 wm0 rfl 8 (by decide) (hts _ (List.mem_cons_of_mem _ (wl_in_0 _ (List.mem_of_getElem? (i := 16) rfl)))) (fun _ h9 => h9) rfl dX12_asked_38 ?_
      have r_A14_0_8 : (0 : Int) ≤ (A14 0 8) ∧ (A14 0 8) ≤ 5 := hI 0 8
      have J57_17 : ∀ (z21 : Int) (H : Heap) (locs : List Loc) (ls : Array Slot), (-1 ≤ z21 ∧ z21 ≤ 7) → (Hd ((A14 0 8) = 0 → z21 = lk (A 3) (8 * A 0 47).toNat (A 0 7) (A 2 (A 0 47).toNat).toNat)) → va_P (dC, dI) vwCl (WM cI cJ cZ q A14) H → va_S AS s.heap H locs → lv_has ls 3 [(0, .ref (q 0)), (1, .int (iI x1))] → W p l e (headSpec ws_mb_X12_asked_0 ({ frames := 2, cells := 0, slots := 0, locals := 48 } : Room)).room s m [.ref (q 0), .int (iI x1)].toArray below meth c H locs 0 0 Q (F0 m 57 ls [.int (iI z21)]) := by
        intro z21 H locs ls f23 f24 hP hS hl
        refine lv_istore_n (lv' := [(2, .int (iI z21)), (0, .ref (q 0)), (1, .int (iI x1))]) hx hb dX12_asked_57 rfl hl (by decide) rfl (fun ls hl => ?_)
        refine lv_aload_n hx hb dX12_asked_58 rfl (lv_at hl 1 rfl) ?_
        refine va_get (D := (dC, dI)) (ci := 12) (v := .int (iI (A14 0 8))) (C := RX12) (T := TX12) (N := 85) hx hb hts hiX12 hown hK hP 0 wm0 rfl 8 (by decide) (hts _ (List.mem_cons_of_mem _ (wl_in_0 _ (List.mem_of_getElem? (i := 16) rfl)))) (fun _ h9 => h9) rfl dX12_asked_59 ?_
        have J79_26 : ∀ (A32 : St) (H : Heap) (locs : List Loc) (ls : Array Slot), (Hd ((A32 0 8) = 0 → (A14 0 8 = 0 ∧ 0 ≤ z21))) → IM A32 → fr [] [8, 9] A14 A32 → va_P (dC, dI) vwCl (WM cI cJ cZ q A32) H → va_S AS s.heap H locs → lv_has ls 3 [(2, .int (iI z21)), (0, .ref (q 0)), (1, .int (iI x1))] → W p l e (headSpec ws_mb_X12_asked_0 ({ frames := 2, cells := 0, slots := 0, locals := 48 } : Room)).room s m [.ref (q 0), .int (iI x1)].toArray below meth c H locs 0 0 Q (F0 m 79 ls []) := by
          intro A32 H locs ls f33 hI hj31 hP hS hl
          refine lv_aload_n hx hb dX12_asked_79 rfl (lv_at hl 1 rfl) ?_
          refine va_get (D := (dC, dI)) (ci := 12) (v := .int (iI (A32 0 8))) (C := RX12) (T := TX12) (N := 85) hx hb hts hiX12 hown hK hP 0 wm0 rfl 8 (by decide) (hts _ (List.mem_cons_of_mem _ (wl_in_0 _ (List.mem_of_getElem? (i := 16) rfl)))) (fun _ h9 => h9) rfl dX12_asked_80 ?_
          have r_A32_0_8 : (0 : Int) ≤ (A32 0 8) ∧ (A32 0 8) ≤ 5 := hI 0 8
          have J90_35 : ∀ (A42 : St) (H : Heap) (locs : List Loc) (ls : Array Slot), (A 0 4 ≤ (A42 0 4)) → (Hd ((A42 0 8) = 0 → A32 0 8 = 0)) → (CB A42) → IM A42 → fr [] [3, 4, 5, 6, 7, 8, 9] A32 A42 → va_P (dC, dI) vwCl (WM cI cJ cZ q A42) H → va_S AS s.heap H locs → lv_has ls 3 [(2, .int (iI z21)), (0, .ref (q 0)), (1, .int (iI x1))] → W p l e (headSpec ws_mb_X12_asked_0 ({ frames := 2, cells := 0, slots := 0, locals := 48 } : Room)).room s m [.ref (q 0), .int (iI x1)].toArray below meth c H locs 0 0 Q (F0 m 90 ls []) := by
            intro A42 H locs ls f43 f44 hc45 hI hj41 hP hS hl
            refine lv_aload_n hx hb dX12_asked_90 rfl (lv_at hl 1 rfl) ?_
            refine va_get (D := (dC, dI)) (ci := 12) (v := .int (iI (A42 0 8))) (C := RX12) (T := TX12) (N := 85) hx hb hts hiX12 hown hK hP 0 wm0 rfl 8 (by decide) (hts _ (List.mem_cons_of_mem _ (wl_in_0 _ (List.mem_of_getElem? (i := 16) rfl)))) (fun _ h9 => h9) rfl dX12_asked_91 ?_
            have r_A42_0_8 : (0 : Int) ≤ (A42 0 8) ∧ (A42 0 8) ≤ 5 := hI 0 8
            refine lv_if_le (tgt := 101) hx hb dX12_asked_94 (by decide) (fun c46 => ?_) (fun c46 => ?_)
            · have c46 : (A42 0 8) ≤ 0 := (i_le0 (rb r_A42_0_8 (by decide) (by decide))).mp c46
              refine lv_iload_n hx hb dX12_asked_101 rfl (lv_at hl 0 rfl) ?_
              have r_A42_0_4 : (0 : Int) ≤ (A42 0 4) ∧ (A42 0 4) ≤ 1600 := hI 0 4
              have hq : Hd (A42 0 8 = 0 → (0 ≤ z21 ∧ A 0 8 = 0 ∧ A 0 3 = 1 ∧ ownz (A 0 7) = 0 ∧ z21 = lk (A 3) (8 * A 0 47).toNat (A 0 7) (A 2 (A 0 47).toNat).toNat)) := Hd.mk (fun h0 => by
                have g4 := f44.out (by omega)
                have g3 := f33.out (by omega)
                have g2 := f24.out (by omega)
                have g1 := f15.out (by omega)
                exact ⟨by omega, by omega, g1.1, g1.2, by omega⟩)
              have hq0 : 0 ≤ z21 := (hq.out (by omega)).1
              exact RET z21 _ _ _ _ _ ⟨hI, fr.trans (fr.trans (fr.trans (fr.rf) hj13 rfl rfl) hj31 rfl rfl) hj41 rfl rfl, hc45, ⟨by omega, by omega, by omega, Hd.mk (fun h => (hq.out h).2)⟩⟩ hP hS dX12_asked_102
            · have c46 : ¬ (A42 0 8) ≤ 0 := mt (i_le0 (rb r_A42_0_8 (by decide) (by decide))).mpr c46
              refine lv_iconst (v := iI 0) hx hb dX12_asked_97 (by decide +kernel) ?_
              refine lv_goto (tgt := 102) hx hb dX12_asked_98 (by decide) ?_
              have r_A42_0_4 : (0 : Int) ≤ (A42 0 4) ∧ (A42 0 4) ≤ 1600 := hI 0 4
              have hq : Hd (A42 0 8 = 0 → (0 ≤ 0 ∧ A 0 8 = 0 ∧ A 0 3 = 1 ∧ ownz (A 0 7) = 0 ∧ 0 = lk (A 3) (8 * A 0 47).toNat (A 0 7) (A 2 (A 0 47).toNat).toNat)) := Hd.mk (fun h0 => by
                have g4 := f44.out (by omega)
                have g3 := f33.out (by omega)
                have g2 := f24.out (by omega)
                have g1 := f15.out (by omega)
                exact ⟨by omega, by omega, g1.1, g1.2, by omega⟩)
              exact RET 0 _ _ _ _ _ ⟨hI, fr.trans (fr.trans (fr.trans (fr.rf) hj13 rfl rfl) hj31 rfl rfl) hj41 rfl rfl, hc45, ⟨by omega, by omega, by omega, Hd.mk (fun h => (hq.out h).2)⟩⟩ hP hS dX12_asked_102
          refine lv_if_ne (tgt := 90) hx hb dX12_asked_83 (by decide) (fun c34 => ?_) (fun c34 => ?_)
          · have c34 : ¬ (A32 0 8) = 0 := mt (i_eq0 (rb r_A32_0_8 (by decide) (by decide))).mpr c34
            have e_A14_4 : A14 0 4 = (A 0 4) := (hj13.2 4 rfl)
            have e_A32_4 : A32 0 4 = (A 0 4) := (hj31.2 4 rfl).trans e_A14_4
            have r_A_0_4 : (0 : Int) ≤ (A 0 4) ∧ (A 0 4) ≤ 1600 := by rw [← e_A32_4]; exact hI 0 4
            exact J90_35 _ _ _ _ (by omega) (by exact Hd.mk (by  omega)) (CB.fr (CB.fr hcCB hj13 rfl rfl) hj31 rfl rfl) hI (fr.rf) hP hS (lv_sub hl [0, 1, 2] rfl)
          · have c34 : (A32 0 8) = 0 := (i_eq0 (rb r_A32_0_8 (by decide) (by decide))).mp c34
            refine lv_aload_n hx hb dX12_asked_86 rfl (lv_at hl 1 rfl) ?_
            have e_A14_4 : A14 0 4 = (A 0 4) := (hj13.2 4 rfl)
            have e_A32_4 : A32 0 4 = (A 0 4) := (hj31.2 4 rfl).trans e_A14_4
            have r_A_0_4 : (0 : Int) ≤ (A 0 4) ∧ (A 0 4) ≤ 1600 := by rw [← e_A32_4]; exact hI 0 4
            have e_A14_5 : A14 0 5 = (A 0 5) := (hj13.2 5 rfl)
            have e_A32_5 : A32 0 5 = (A 0 5) := (hj31.2 5 rfl).trans e_A14_5
            have r_A_0_5 : (0 : Int) ≤ (A 0 5) ∧ (A 0 5) ≤ 1600 := by rw [← e_A32_5]; exact hI 0 5
            refine x_callv (As := []) (rest := []) ⟨hx, hb, hml, hown, hts⟩ (mb_X12_ahead l dC dI cB cI cJ cZ cQ q _ hI) (cwV 0 hts (goodV (wl_in_0 _ (List.mem_of_getElem? (i := 40) rfl)) (wl_in_0 _ (List.mem_of_getElem? (i := 41) rfl)) (wl_in_0 _ (List.mem_of_getElem? (i := 42) rfl)) (wl_in_0 _ (List.mem_of_getElem? (i := 8) rfl)) (wl_in_0 _ (List.mem_of_getElem? (i := 20) rfl))) rfl rfl rfl (by decide +kernel) ⟨Nat.le_of_ble_eq_true rfl, Nat.le_of_ble_eq_true rfl⟩) hK hDD hA0 hP hS 0 12 wm0 rfl rfl hl.1 (Nat.le_of_ble_eq_true rfl) dX12_asked_87 (fun A36 H locs hw37 hP hS => ?_)
            obtain ⟨hI, hf38, hw37⟩ := hw37
            have r_A36_0_3 : (0 : Int) ≤ (A36 0 3) ∧ (A36 0 3) ≤ 3 := hI 0 3
            have r_A36_0_4 : (0 : Int) ≤ (A36 0 4) ∧ (A36 0 4) ≤ 1600 := hI 0 4
            have r_A36_0_5 : (0 : Int) ≤ (A36 0 5) ∧ (A36 0 5) ≤ 1600 := hI 0 5
            have r_A36_0_8 : (0 : Int) ≤ (A36 0 8) ∧ (A36 0 8) ≤ 5 := hI 0 8
            have hv39 := CB.le (CB.fr (CB.fr hcCB hj13 rfl rfl) hj31 rfl rfl)
            have hc40 := CB.ahead (CB.fr (CB.fr hcCB hj13 rfl rfl) hj31 rfl rfl) (hf38.2 46 rfl) hw37.1 hw37.2.1 hw37.2.2.1
            exact J90_35 _ _ _ _ (by omega) (by exact Hd.mk (by  omega)) hc40 hI (fr.trans (fr.rf) hf38 rfl rfl) hP hS (lv_sub hl [0, 1, 2] rfl)
        refine lv_if_ne (tgt := 79) hx hb dX12_asked_62 (by decide) (fun c25 => ?_) (fun c25 => ?_)
        · have c25 : ¬ (A14 0 8) = 0 := mt (i_eq0 (rb r_A14_0_8 (by decide) (by decide))).mpr c25
          exact J79_26 _ _ _ _ (by exact Hd.mk (by  omega)) hI (fr.rf) hP hS (lv_sub hl [0, 1, 2] rfl)
        · have c25 : (A14 0 8) = 0 := (i_eq0 (rb r_A14_0_8 (by decide) (by decide))).mp c25
          refine lv_iload_n hx hb dX12_asked_65 rfl (lv_at hl 0 rfl) ?_
          refine lv_iconst (v := iI (-1)) hx hb dX12_asked_66 (by decide +kernel) ?_
          refine lv_icmp_ne (tgt := 79) hx hb dX12_asked_67 (by decide) (fun c27 => ?_) (fun c27 => ?_)
          · have c27 : ¬ z21 = (-1) := mt (i_eq (rb f23 (by decide) (by decide)) ⟨by decide, by decide⟩).mpr c27
            exact J79_26 _ _ _ _ (by exact Hd.mk (by  omega)) hI (fr.rf) hP hS (lv_sub hl [0, 1, 2] rfl)
          · have c27 : z21 = (-1) := (i_eq (rb f23 (by decide) (by decide)) ⟨by decide, by decide⟩).mp c27
            refine lv_aload_n hx hb dX12_asked_70 rfl (lv_at hl 1 rfl) ?_
            refine lv_iconst (v := iI 3) hx hb dX12_asked_71 (by decide +kernel) ?_
            refine lv_aload_n hx hb dX12_asked_72 rfl (lv_at hl 1 rfl) ?_
            have e_A14_4 : A14 0 4 = (A 0 4) := (hj13.2 4 rfl)
            refine va_get (D := (dC, dI)) (ci := 12) (v := .int (iI (A14 0 4))) (C := RX12) (T := TX12) (N := 85) hx hb hts hiX12 hown hK hP 0 wm0 rfl 4 (by decide) (hts _ (List.mem_cons_of_mem _ (wl_in_0 _ (List.mem_of_getElem? (i := 23) rfl)))) (fun _ h9 => h9) rfl dX12_asked_73 ?_
            refine tp_i (y := iI (A 0 4)) (congrArg iI e_A14_4) ?_
            have r_A_0_4 : (0 : Int) ≤ (A 0 4) ∧ (A 0 4) ≤ 1600 := by rw [← e_A14_4]; exact hI 0 4
            refine x_callv (As := [.int (iI 3), .int (iI (A 0 4))]) (rest := []) ⟨hx, hb, hml, hown, hts⟩ (mc_X12_blame l dC dI cB cI cJ cZ cQ q _ 3 (A 0 4) hI ⟨by decide, by decide⟩ r_A_0_4) (cwV 2 hts (goodV (wl_in_0 _ (List.mem_of_getElem? (i := 31) rfl)) (wl_in_0 _ (List.mem_of_getElem? (i := 32) rfl)) (wl_in_0 _ (List.mem_of_getElem? (i := 33) rfl)) (wl_in_0 _ (List.mem_of_getElem? (i := 8) rfl)) (wl_in_0 _ (List.mem_of_getElem? (i := 15) rfl))) rfl rfl rfl (by decide +kernel) ⟨Nat.le_of_ble_eq_true rfl, Nat.le_of_ble_eq_true rfl⟩) hK hDD hA0 hP hS 0 12 wm0 rfl rfl hl.1 (Nat.le_of_ble_eq_true rfl) dX12_asked_76 (fun A28 H locs hw29 hP hS => ?_)
            obtain ⟨hI, hf30, hw29⟩ := hw29
            have r_A28_0_8 : (0 : Int) ≤ (A28 0 8) ∧ (A28 0 8) ≤ 5 := hI 0 8
            exact J79_26 _ _ _ _ (by exact Hd.mk (by  omega)) hI (fr.trans (fr.rf) hf30 rfl rfl) hP hS (lv_sub hl [0, 1, 2] rfl)
      refine lv_if_le (tgt := 48) hx hb dX12_asked_41 (by decide) (fun c16 => ?_) (fun c16 => ?_)
      · have c16 : (A14 0 8) ≤ 0 := (i_le0 (rb r_A14_0_8 (by decide) (by decide))).mp c16
        refine lv_aload_n hx hb dX12_asked_48 rfl (lv_at hl 0 rfl) ?_
        refine lv_iload_n hx hb dX12_asked_49 rfl (lv_at hl 1 rfl) ?_
        refine lv_aload_n hx hb dX12_asked_50 rfl (lv_at hl 0 rfl) ?_
        have e_A14_7 : A14 0 7 = (A 0 7) := (hj13.2 7 rfl)
        refine va_get (D := (dC, dI)) (ci := 12) (v := .long (jI (A14 0 7))) (C := RX12) (T := TX12) (N := 85) hx hb hts hiX12 hown hK hP 0 wm0 rfl 7 (by decide) (hts _ (List.mem_cons_of_mem _ (wl_in_0 _ (List.mem_of_getElem? (i := 26) rfl)))) (fun _ h9 => h9) rfl dX12_asked_51 ?_
        refine tp_l (y := jI (A 0 7)) (congrArg jI e_A14_7) ?_
        have r_A_0_7 : (-9223372036854775808 : Int) ≤ (A 0 7) ∧ (A 0 7) ≤ 9223372036854775807 := by rw [← e_A14_7]; exact hI 0 7
        have e_A14_47 : A14 0 47 = (A 0 47) := (hj13.2 47 rfl)
        have r_A_0_47 : (0 : Int) ≤ (A 0 47) ∧ (A 0 47) ≤ 1 := by rw [← e_A14_47]; exact hI 0 47
        refine x_calli (As := [.int (iI x1), .long (jI (A 0 7))]) (rest := []) ⟨hx, hb, hml, hown, hts⟩ (mb_X12_named_0 l dC dI cB cI cJ cZ cQ q _ x1 (A 0 7) hI hx1 r_A_0_7) (cwV 2 hts (goodV (wl_in_2 _ (List.mem_of_getElem? (i := 26) rfl)) (wl_in_2 _ (List.mem_of_getElem? (i := 27) rfl)) (wl_in_2 _ (List.mem_of_getElem? (i := 28) rfl)) (wl_in_0 _ (List.mem_of_getElem? (i := 8) rfl)) (wl_in_1 _ (List.mem_of_getElem? (i := 10) rfl))) rfl rfl rfl (by decide +kernel) ⟨Nat.le_of_ble_eq_true rfl, Nat.le_of_ble_eq_true rfl⟩) hK hDD hA0 hP hS 0 12 wm0 rfl rfl hl.1 (Nat.le_of_ble_eq_true rfl) dX12_asked_54 (fun z18 A19 H locs hw20 hP hS => ?_)
        obtain ⟨rfl, hw20⟩ := hw20
        have a_A14_3 : A14 3 = A 3 := (hj13.1 3 (by decide) rfl)
        have a_A14_2 : A14 2 = A 2 := (hj13.1 2 (by decide) rfl)
        rw [a_A14_3, a_A14_2, e_A14_47] at hw20
        exact J57_17 z18 _ _ _ (by omega) (by exact Hd.mk (by  omega)) hP hS (lv_sub hl [0, 1] rfl)
      · have c16 : ¬ (A14 0 8) ≤ 0 := mt (i_le0 (rb r_A14_0_8 (by decide) (by decide))).mpr c16
        refine lv_iconst (v := iI 0) hx hb dX12_asked_44 (by decide +kernel) ?_
        refine lv_goto (tgt := 57) hx hb dX12_asked_45 (by decide) ?_
        exact J57_17 0 _ _ _ (by omega) (by exact Hd.mk (by  omega)) hP hS (lv_sub hl [0, 1] rfl)
    have J28_3 : ∀ (H : Heap) (locs : List Loc) (ls : Array Slot), va_P (dC, dI) vwCl (WM cI cJ cZ q A) H → va_S AS s.heap H locs → lv_has ls 3 [(0, .ref (q 0)), (1, .int (iI x1))] → W p l e (headSpec ws_mb_X12_asked_0 ({ frames := 2, cells := 0, slots := 0, locals := 48 } : Room)).room s m [.ref (q 0), .int (iI x1)].toArray below meth c H locs 0 0 Q (F0 m 28 ls []) := by
      intro H locs ls hP hS hl
      refine lv_aload_n hx hb dX12_asked_28 rfl (lv_at hl 0 rfl) ?_
      refine lv_iconst (v := iI 1) hx hb dX12_asked_29 (by decide +kernel) ?_
      refine lv_aload_n hx hb dX12_asked_30 rfl (lv_at hl 0 rfl) ?_
      refine va_get (D := (dC, dI)) (ci := 12) (v := .int (iI (A 0 4))) (C := RX12) (T := TX12) (N := 85) hx hb hts hiX12 hown hK hP 0 wm0 rfl 4 (by decide) (hts _ (List.mem_cons_of_mem _ (wl_in_0 _ (List.mem_of_getElem? (i := 23) rfl)))) (fun _ h9 => h9) rfl dX12_asked_31 ?_
      have r_A_0_4 : (0 : Int) ≤ (A 0 4) ∧ (A 0 4) ≤ 1600 := hI 0 4
      refine x_callv (As := [.int (iI 1), .int (iI (A 0 4))]) (rest := []) ⟨hx, hb, hml, hown, hts⟩ (mc_X12_blame l dC dI cB cI cJ cZ cQ q _ 1 (A 0 4) hI ⟨by decide, by decide⟩ r_A_0_4) (cwV 2 hts (goodV (wl_in_0 _ (List.mem_of_getElem? (i := 31) rfl)) (wl_in_0 _ (List.mem_of_getElem? (i := 32) rfl)) (wl_in_0 _ (List.mem_of_getElem? (i := 33) rfl)) (wl_in_0 _ (List.mem_of_getElem? (i := 8) rfl)) (wl_in_0 _ (List.mem_of_getElem? (i := 15) rfl))) rfl rfl rfl (by decide +kernel) ⟨Nat.le_of_ble_eq_true rfl, Nat.le_of_ble_eq_true rfl⟩) hK hDD hA0 hP hS 0 12 wm0 rfl rfl hl.1 (Nat.le_of_ble_eq_true rfl) dX12_asked_34 (fun A10 H locs hw11 hP hS => ?_)
      obtain ⟨hI, hf12, hw11⟩ := hw11
      have r_A10_0_8 : (0 : Int) ≤ (A10 0 8) ∧ (A10 0 8) ≤ 5 := hI 0 8
      exact J37_4 _ _ _ _ (by exact Hd.mk (by  omega)) hI (fr.trans (fr.rf) hf12 rfl rfl) hP hS (lv_sub hl [0, 1] rfl)
    refine lv_icmp_ne (tgt := 28) hx hb dX12_asked_14 (by decide) (fun c2 => ?_) (fun c2 => ?_)
    · have c2 : ¬ (A 0 3) = 1 := mt (i_eq (rb r_A_0_3 (by decide) (by decide)) ⟨by decide, by decide⟩).mpr c2
      exact J28_3 _ _ _ hP hS (lv_sub hl [0, 1] rfl)
    · have c2 : (A 0 3) = 1 := (i_eq (rb r_A_0_3 (by decide) (by decide)) ⟨by decide, by decide⟩).mp c2
      refine lv_aload_n hx hb dX12_asked_17 rfl (lv_at hl 0 rfl) ?_
      refine lv_aload_n hx hb dX12_asked_18 rfl (lv_at hl 0 rfl) ?_
      refine va_get (D := (dC, dI)) (ci := 12) (v := .long (jI (A 0 7))) (C := RX12) (T := TX12) (N := 85) hx hb hts hiX12 hown hK hP 0 wm0 rfl 7 (by decide) (hts _ (List.mem_cons_of_mem _ (wl_in_0 _ (List.mem_of_getElem? (i := 26) rfl)))) (fun _ h9 => h9) rfl dX12_asked_19 ?_
      have r_A_0_7 : (-9223372036854775808 : Int) ≤ (A 0 7) ∧ (A 0 7) ≤ 9223372036854775807 := hI 0 7
      refine x_calli (As := [.long (jI (A 0 7))]) (rest := []) ⟨hx, hb, hml, hown, hts⟩ (mb_X12_isOwn l dC dI cB cI cJ cZ cQ q _ (A 0 7) hI r_A_0_7) (cwV 1 hts (goodV (wl_in_2 _ (List.mem_of_getElem? (i := 23) rfl)) (wl_in_2 _ (List.mem_of_getElem? (i := 24) rfl)) (wl_in_2 _ (List.mem_of_getElem? (i := 25) rfl)) (wl_in_0 _ (List.mem_of_getElem? (i := 8) rfl)) (wl_in_0 _ (List.mem_of_getElem? (i := 43) rfl))) rfl rfl rfl (by decide +kernel) ⟨Nat.le_of_ble_eq_true rfl, Nat.le_of_ble_eq_true rfl⟩) hK hDD hA0 hP hS 0 12 wm0 rfl rfl hl.1 (Nat.le_of_ble_eq_true rfl) dX12_asked_22 (fun z5 A6 H locs hw7 hP hS => ?_)
      obtain ⟨rfl, hw7⟩ := hw7
      have rz5 : 0 ≤ z5 ∧ z5 ≤ 1 := hw7.1
      refine lv_if_eq (tgt := 37) hx hb dX12_asked_25 (by decide) (fun c8 => ?_) (fun c8 => ?_)
      · have c8 : z5 = 0 := (i_eq0 (rb rz5 (by decide) (by decide))).mp c8
        exact J37_4 _ _ _ _ (by exact Hd.mk (by  omega)) hI (fr.rf) hP hS (lv_sub hl [0, 1] rfl)
      · have c8 : ¬ z5 = 0 := mt (i_eq0 (rb rz5 (by decide) (by decide))).mpr c8
        exact J28_3 _ _ _ hP hS (lv_sub hl [0, 1] rfl)
  · have c1 : ¬ (A 0 8) ≤ 0 := mt (i_le0 (rb r_A_0_8 (by decide) (by decide))).mpr c1
    refine lv_iconst (v := iI 0) hx hb dX12_asked_7 (by decide +kernel) ?_
    have r_A_0_4 : (0 : Int) ≤ (A 0 4) ∧ (A 0 4) ≤ 1600 := hI 0 4
    exact RET 0 _ _ _ _ _ ⟨hI, fr.rf, hcCB, ⟨by omega, by omega, by omega, Hd.mk (fun h => absurd h (by omega))⟩⟩ hP hS dX12_asked_8

def ws_mb_X12_asked_1 : List Cond := .code yX12_asked cX12_asked 3 (some .int) :: WX
set_option maxHeartbeats 4000000 in
set_option maxRecDepth 100000 in
theorem mb_X12_asked_1 (l : Launch) (dC : Nat → ClassId) (dI : Nat → Nat → Nat) (cB cI cJ cZ cQ : ClassId) (q : Nat → Nat) (A : St) (x1 : Int) (hI : IM A) (hx1 : (1 : Int) ≤ x1 ∧ x1 ≤ 1) (hcCB : CB A) : XMi l yX12_asked ws_mb_X12_asked_1 ({ frames := 2, cells := 0, slots := 0, locals := 48 } : Room) (dC, dI) (tyA cB cI cJ cZ cQ) (WM cI cJ cZ q) A [.ref (q 0), .int (iI x1)] (fun z u => IM u ∧ fr [] [3, 4, 5, 6, 7, 8, 9] A u ∧ CB u ∧ (0 ≤ z ∧ z ≤ 9 ∧ A 0 4 ≤ u 0 4 ∧ Hd (u 0 8 = 0 → A 0 8 = 0 ∧ A 0 3 = 1 ∧ ownz (A 0 7) = 0 ∧ z = lk (A 5) (10 * A 0 47).toNat (A 0 7) (A 4 (A 0 47).toNat).toNat))) := by
  refine x_meti (cc := cX12_asked) (maxL := 3) WM_adr (by decide +kernel) rfl (Nat.le_of_ble_eq_true rfl) (fun p e s m below meth c Q AS ls hx hb hml hown hts hK hDD hA0 hP hS hl RET => ?_)
  have hown : s.vm.findClass RX12 = some m.cls := hown
  have hl : lv_has ls 3 [(0, .ref (q 0)), (1, .int (iI x1))] := hl
  have hiX12 : ∀ w ∈ u_ws RX12 TX12 85, w ∈ ws_mb_X12_asked_1 := fun w h => List.mem_cons_of_mem _ (wx_lay w h)
  obtain ⟨H, hHe⟩ : ∃ H : Heap, H = s.heap := ⟨_, rfl⟩
  rw [← hHe] at hP
  have hS : va_S AS s.heap H [] := by rw [hHe]; exact hS
  suffices hgo : ∀ locs : List Loc, va_S AS s.heap H locs → W p l e (headSpec ws_mb_X12_asked_1 ({ frames := 2, cells := 0, slots := 0, locals := 48 } : Room)).room s m [.ref (q 0), .int (iI x1)].toArray below meth c H locs 0 0 Q (F0 m 0 ls []) by
    have := hgo [] hS
    rw [hHe] at this
    exact this
  clear hS hHe
  intro locs hS
  have hle := CB.le hcCB
  refine lv_aload_n hx hb dX12_asked_0 rfl (lv_at hl 0 rfl) ?_
  refine va_get (D := (dC, dI)) (ci := 12) (v := .int (iI (A 0 8))) (C := RX12) (T := TX12) (N := 85) hx hb hts hiX12 hown hK hP 0 wm0 rfl 8 (by decide) (hts _ (List.mem_cons_of_mem _ (wl_in_0 _ (List.mem_of_getElem? (i := 16) rfl)))) (fun _ h9 => h9) rfl dX12_asked_1 ?_
  have r_A_0_8 : (0 : Int) ≤ (A 0 8) ∧ (A 0 8) ≤ 5 := hI 0 8
  refine lv_if_le (tgt := 9) hx hb dX12_asked_4 (by decide) (fun c1 => ?_) (fun c1 => ?_)
  · have c1 : (A 0 8) ≤ 0 := (i_le0 (rb r_A_0_8 (by decide) (by decide))).mp c1
    refine lv_aload_n hx hb dX12_asked_9 rfl (lv_at hl 0 rfl) ?_
    refine va_get (D := (dC, dI)) (ci := 12) (v := .int (iI (A 0 3))) (C := RX12) (T := TX12) (N := 85) hx hb hts hiX12 hown hK hP 0 wm0 rfl 3 (by decide) (hts _ (List.mem_cons_of_mem _ (wl_in_0 _ (List.mem_of_getElem? (i := 24) rfl)))) (fun _ h9 => h9) rfl dX12_asked_10 ?_
    have r_A_0_3 : (0 : Int) ≤ (A 0 3) ∧ (A 0 3) ≤ 3 := hI 0 3
    refine lv_iconst (v := iI 1) hx hb dX12_asked_13 (by decide +kernel) ?_
    have J37_4 : ∀ (A14 : St) (H : Heap) (locs : List Loc) (ls : Array Slot), (Hd ((A14 0 8) = 0 → A 0 3 = 1 ∧ ownz (A 0 7) = 0)) → IM A14 → fr [] [8, 9] A A14 → va_P (dC, dI) vwCl (WM cI cJ cZ q A14) H → va_S AS s.heap H locs → lv_has ls 3 [(0, .ref (q 0)), (1, .int (iI x1))] → W p l e (headSpec ws_mb_X12_asked_1 ({ frames := 2, cells := 0, slots := 0, locals := 48 } : Room)).room s m [.ref (q 0), .int (iI x1)].toArray below meth c H locs 0 0 Q (F0 m 37 ls []) := by
      intro A14 H locs ls f15 hI hj13 hP hS hl
      refine lv_aload_n hx hb dX12_asked_37 rfl (lv_at hl 0 rfl) ?_
      refine va_get (D := (dC, dI)) (ci := 12) (v := .int (iI (A14 0 8))) (C := RX12) (T := TX12) (N := 85) hx hb hts hiX12 hown hK hP 0 wm0 rfl 8 (by decide) (hts _ (List.mem_cons_of_mem _ (wl_in_0 _ (List.mem_of_getElem? (i := 16) rfl)))) (fun _ h9 => h9) rfl dX12_asked_38 ?_
      have r_A14_0_8 : (0 : Int) ≤ (A14 0 8) ∧ (A14 0 8) ≤ 5 := hI 0 8
      have J57_17 : ∀ (z21 : Int) (H : Heap) (locs : List Loc) (ls : Array Slot), (-1 ≤ z21 ∧ z21 ≤ 9) → (Hd ((A14 0 8) = 0 → z21 = lk (A 5) (10 * A 0 47).toNat (A 0 7) (A 4 (A 0 47).toNat).toNat)) → va_P (dC, dI) vwCl (WM cI cJ cZ q A14) H → va_S AS s.heap H locs → lv_has ls 3 [(0, .ref (q 0)), (1, .int (iI x1))] → W p l e (headSpec ws_mb_X12_asked_1 ({ frames := 2, cells := 0, slots := 0, locals := 48 } : Room)).room s m [.ref (q 0), .int (iI x1)].toArray below meth c H locs 0 0 Q (F0 m 57 ls [.int (iI z21)]) := by
        intro z21 H locs ls f23 f24 hP hS hl
        refine lv_istore_n (lv' := [(2, .int (iI z21)), (0, .ref (q 0)), (1, .int (iI x1))]) hx hb dX12_asked_57 rfl hl (by decide) rfl (fun ls hl => ?_)
        refine lv_aload_n hx hb dX12_asked_58 rfl (lv_at hl 1 rfl) ?_
        refine va_get (D := (dC, dI)) (ci := 12) (v := .int (iI (A14 0 8))) (C := RX12) (T := TX12) (N := 85) hx hb hts hiX12 hown hK hP 0 wm0 rfl 8 (by decide) (hts _ (List.mem_cons_of_mem _ (wl_in_0 _ (List.mem_of_getElem? (i := 16) rfl)))) (fun _ h9 => h9) rfl dX12_asked_59 ?_
        have J79_26 : ∀ (A32 : St) (H : Heap) (locs : List Loc) (ls : Array Slot), (Hd ((A32 0 8) = 0 → (A14 0 8 = 0 ∧ 0 ≤ z21))) → IM A32 → fr [] [8, 9] A14 A32 → va_P (dC, dI) vwCl (WM cI cJ cZ q A32) H → va_S AS s.heap H locs → lv_has ls 3 [(2, .int (iI z21)), (0, .ref (q 0)), (1, .int (iI x1))] → W p l e (headSpec ws_mb_X12_asked_1 ({ frames := 2, cells := 0, slots := 0, locals := 48 } : Room)).room s m [.ref (q 0), .int (iI x1)].toArray below meth c H locs 0 0 Q (F0 m 79 ls []) := by
          intro A32 H locs ls f33 hI hj31 hP hS hl
          refine lv_aload_n hx hb dX12_asked_79 rfl (lv_at hl 1 rfl) ?_
          refine va_get (D := (dC, dI)) (ci := 12) (v := .int (iI (A32 0 8))) (C := RX12) (T := TX12) (N := 85) hx hb hts hiX12 hown hK hP 0 wm0 rfl 8 (by decide) (hts _ (List.mem_cons_of_mem _ (wl_in_0 _ (List.mem_of_getElem? (i := 16) rfl)))) (fun _ h9 => h9) rfl dX12_asked_80 ?_
          have r_A32_0_8 : (0 : Int) ≤ (A32 0 8) ∧ (A32 0 8) ≤ 5 := hI 0 8
          have J90_35 : ∀ (A42 : St) (H : Heap) (locs : List Loc) (ls : Array Slot), (A 0 4 ≤ (A42 0 4)) → (Hd ((A42 0 8) = 0 → A32 0 8 = 0)) → (CB A42) → IM A42 → fr [] [3, 4, 5, 6, 7, 8, 9] A32 A42 → va_P (dC, dI) vwCl (WM cI cJ cZ q A42) H → va_S AS s.heap H locs → lv_has ls 3 [(2, .int (iI z21)), (0, .ref (q 0)), (1, .int (iI x1))] → W p l e (headSpec ws_mb_X12_asked_1 ({ frames := 2, cells := 0, slots := 0, locals := 48 } : Room)).room s m [.ref (q 0), .int (iI x1)].toArray below meth c H locs 0 0 Q (F0 m 90 ls []) := by
            intro A42 H locs ls f43 f44 hc45 hI hj41 hP hS hl
            refine lv_aload_n hx hb dX12_asked_90 rfl (lv_at hl 1 rfl) ?_
            refine va_get (D := (dC, dI)) (ci := 12) (v := .int (iI (A42 0 8))) (C := RX12) (T := TX12) (N := 85) hx hb hts hiX12 hown hK hP 0 wm0 rfl 8 (by decide) (hts _ (List.mem_cons_of_mem _ (wl_in_0 _ (List.mem_of_getElem? (i := 16) rfl)))) (fun _ h9 => h9) rfl dX12_asked_91 ?_
            have r_A42_0_8 : (0 : Int) ≤ (A42 0 8) ∧ (A42 0 8) ≤ 5 := hI 0 8
            refine lv_if_le (tgt := 101) hx hb dX12_asked_94 (by decide) (fun c46 => ?_) (fun c46 => ?_)
            · have c46 : (A42 0 8) ≤ 0 := (i_le0 (rb r_A42_0_8 (by decide) (by decide))).mp c46
              refine lv_iload_n hx hb dX12_asked_101 rfl (lv_at hl 0 rfl) ?_
              have r_A42_0_4 : (0 : Int) ≤ (A42 0 4) ∧ (A42 0 4) ≤ 1600 := hI 0 4
              have hq : Hd (A42 0 8 = 0 → (0 ≤ z21 ∧ A 0 8 = 0 ∧ A 0 3 = 1 ∧ ownz (A 0 7) = 0 ∧ z21 = lk (A 5) (10 * A 0 47).toNat (A 0 7) (A 4 (A 0 47).toNat).toNat)) := Hd.mk (fun h0 => by
                have g4 := f44.out (by omega)
                have g3 := f33.out (by omega)
                have g2 := f24.out (by omega)
                have g1 := f15.out (by omega)
                exact ⟨by omega, by omega, g1.1, g1.2, by omega⟩)
              have hq0 : 0 ≤ z21 := (hq.out (by omega)).1
              exact RET z21 _ _ _ _ _ ⟨hI, fr.trans (fr.trans (fr.trans (fr.rf) hj13 rfl rfl) hj31 rfl rfl) hj41 rfl rfl, hc45, ⟨by omega, by omega, by omega, Hd.mk (fun h => (hq.out h).2)⟩⟩ hP hS dX12_asked_102
            · have c46 : ¬ (A42 0 8) ≤ 0 := mt (i_le0 (rb r_A42_0_8 (by decide) (by decide))).mpr c46
              refine lv_iconst (v := iI 0) hx hb dX12_asked_97 (by decide +kernel) ?_
              refine lv_goto (tgt := 102) hx hb dX12_asked_98 (by decide) ?_
              have r_A42_0_4 : (0 : Int) ≤ (A42 0 4) ∧ (A42 0 4) ≤ 1600 := hI 0 4
              have hq : Hd (A42 0 8 = 0 → (0 ≤ 0 ∧ A 0 8 = 0 ∧ A 0 3 = 1 ∧ ownz (A 0 7) = 0 ∧ 0 = lk (A 5) (10 * A 0 47).toNat (A 0 7) (A 4 (A 0 47).toNat).toNat)) := Hd.mk (fun h0 => by
                have g4 := f44.out (by omega)
                have g3 := f33.out (by omega)
                have g2 := f24.out (by omega)
                have g1 := f15.out (by omega)
                exact ⟨by omega, by omega, g1.1, g1.2, by omega⟩)
              exact RET 0 _ _ _ _ _ ⟨hI, fr.trans (fr.trans (fr.trans (fr.rf) hj13 rfl rfl) hj31 rfl rfl) hj41 rfl rfl, hc45, ⟨by omega, by omega, by omega, Hd.mk (fun h => (hq.out h).2)⟩⟩ hP hS dX12_asked_102
          refine lv_if_ne (tgt := 90) hx hb dX12_asked_83 (by decide) (fun c34 => ?_) (fun c34 => ?_)
          · have c34 : ¬ (A32 0 8) = 0 := mt (i_eq0 (rb r_A32_0_8 (by decide) (by decide))).mpr c34
            have e_A14_4 : A14 0 4 = (A 0 4) := (hj13.2 4 rfl)
            have e_A32_4 : A32 0 4 = (A 0 4) := (hj31.2 4 rfl).trans e_A14_4
            have r_A_0_4 : (0 : Int) ≤ (A 0 4) ∧ (A 0 4) ≤ 1600 := by rw [← e_A32_4]; exact hI 0 4
            exact J90_35 _ _ _ _ (by omega) (by exact Hd.mk (by  omega)) (CB.fr (CB.fr hcCB hj13 rfl rfl) hj31 rfl rfl) hI (fr.rf) hP hS (lv_sub hl [0, 1, 2] rfl)
          · have c34 : (A32 0 8) = 0 := (i_eq0 (rb r_A32_0_8 (by decide) (by decide))).mp c34
            refine lv_aload_n hx hb dX12_asked_86 rfl (lv_at hl 1 rfl) ?_
            have e_A14_4 : A14 0 4 = (A 0 4) := (hj13.2 4 rfl)
            have e_A32_4 : A32 0 4 = (A 0 4) := (hj31.2 4 rfl).trans e_A14_4
            have r_A_0_4 : (0 : Int) ≤ (A 0 4) ∧ (A 0 4) ≤ 1600 := by rw [← e_A32_4]; exact hI 0 4
            have e_A14_5 : A14 0 5 = (A 0 5) := (hj13.2 5 rfl)
            have e_A32_5 : A32 0 5 = (A 0 5) := (hj31.2 5 rfl).trans e_A14_5
            have r_A_0_5 : (0 : Int) ≤ (A 0 5) ∧ (A 0 5) ≤ 1600 := by rw [← e_A32_5]; exact hI 0 5
            refine x_callv (As := []) (rest := []) ⟨hx, hb, hml, hown, hts⟩ (mb_X12_ahead l dC dI cB cI cJ cZ cQ q _ hI) (cwV 0 hts (goodV (wl_in_0 _ (List.mem_of_getElem? (i := 40) rfl)) (wl_in_0 _ (List.mem_of_getElem? (i := 41) rfl)) (wl_in_0 _ (List.mem_of_getElem? (i := 42) rfl)) (wl_in_0 _ (List.mem_of_getElem? (i := 8) rfl)) (wl_in_0 _ (List.mem_of_getElem? (i := 20) rfl))) rfl rfl rfl (by decide +kernel) ⟨Nat.le_of_ble_eq_true rfl, Nat.le_of_ble_eq_true rfl⟩) hK hDD hA0 hP hS 0 12 wm0 rfl rfl hl.1 (Nat.le_of_ble_eq_true rfl) dX12_asked_87 (fun A36 H locs hw37 hP hS => ?_)
            obtain ⟨hI, hf38, hw37⟩ := hw37
            have r_A36_0_3 : (0 : Int) ≤ (A36 0 3) ∧ (A36 0 3) ≤ 3 := hI 0 3
            have r_A36_0_4 : (0 : Int) ≤ (A36 0 4) ∧ (A36 0 4) ≤ 1600 := hI 0 4
            have r_A36_0_5 : (0 : Int) ≤ (A36 0 5) ∧ (A36 0 5) ≤ 1600 := hI 0 5
            have r_A36_0_8 : (0 : Int) ≤ (A36 0 8) ∧ (A36 0 8) ≤ 5 := hI 0 8
            have hv39 := CB.le (CB.fr (CB.fr hcCB hj13 rfl rfl) hj31 rfl rfl)
            have hc40 := CB.ahead (CB.fr (CB.fr hcCB hj13 rfl rfl) hj31 rfl rfl) (hf38.2 46 rfl) hw37.1 hw37.2.1 hw37.2.2.1
            exact J90_35 _ _ _ _ (by omega) (by exact Hd.mk (by  omega)) hc40 hI (fr.trans (fr.rf) hf38 rfl rfl) hP hS (lv_sub hl [0, 1, 2] rfl)
        refine lv_if_ne (tgt := 79) hx hb dX12_asked_62 (by decide) (fun c25 => ?_) (fun c25 => ?_)
        · have c25 : ¬ (A14 0 8) = 0 := mt (i_eq0 (rb r_A14_0_8 (by decide) (by decide))).mpr c25
          exact J79_26 _ _ _ _ (by exact Hd.mk (by  omega)) hI (fr.rf) hP hS (lv_sub hl [0, 1, 2] rfl)
        · have c25 : (A14 0 8) = 0 := (i_eq0 (rb r_A14_0_8 (by decide) (by decide))).mp c25
          refine lv_iload_n hx hb dX12_asked_65 rfl (lv_at hl 0 rfl) ?_
          refine lv_iconst (v := iI (-1)) hx hb dX12_asked_66 (by decide +kernel) ?_
          refine lv_icmp_ne (tgt := 79) hx hb dX12_asked_67 (by decide) (fun c27 => ?_) (fun c27 => ?_)
          · have c27 : ¬ z21 = (-1) := mt (i_eq (rb f23 (by decide) (by decide)) ⟨by decide, by decide⟩).mpr c27
            exact J79_26 _ _ _ _ (by exact Hd.mk (by  omega)) hI (fr.rf) hP hS (lv_sub hl [0, 1, 2] rfl)
          · have c27 : z21 = (-1) := (i_eq (rb f23 (by decide) (by decide)) ⟨by decide, by decide⟩).mp c27
            refine lv_aload_n hx hb dX12_asked_70 rfl (lv_at hl 1 rfl) ?_
            refine lv_iconst (v := iI 3) hx hb dX12_asked_71 (by decide +kernel) ?_
            refine lv_aload_n hx hb dX12_asked_72 rfl (lv_at hl 1 rfl) ?_
            have e_A14_4 : A14 0 4 = (A 0 4) := (hj13.2 4 rfl)
            refine va_get (D := (dC, dI)) (ci := 12) (v := .int (iI (A14 0 4))) (C := RX12) (T := TX12) (N := 85) hx hb hts hiX12 hown hK hP 0 wm0 rfl 4 (by decide) (hts _ (List.mem_cons_of_mem _ (wl_in_0 _ (List.mem_of_getElem? (i := 23) rfl)))) (fun _ h9 => h9) rfl dX12_asked_73 ?_
            refine tp_i (y := iI (A 0 4)) (congrArg iI e_A14_4) ?_
            have r_A_0_4 : (0 : Int) ≤ (A 0 4) ∧ (A 0 4) ≤ 1600 := by rw [← e_A14_4]; exact hI 0 4
            refine x_callv (As := [.int (iI 3), .int (iI (A 0 4))]) (rest := []) ⟨hx, hb, hml, hown, hts⟩ (mc_X12_blame l dC dI cB cI cJ cZ cQ q _ 3 (A 0 4) hI ⟨by decide, by decide⟩ r_A_0_4) (cwV 2 hts (goodV (wl_in_0 _ (List.mem_of_getElem? (i := 31) rfl)) (wl_in_0 _ (List.mem_of_getElem? (i := 32) rfl)) (wl_in_0 _ (List.mem_of_getElem? (i := 33) rfl)) (wl_in_0 _ (List.mem_of_getElem? (i := 8) rfl)) (wl_in_0 _ (List.mem_of_getElem? (i := 15) rfl))) rfl rfl rfl (by decide +kernel) ⟨Nat.le_of_ble_eq_true rfl, Nat.le_of_ble_eq_true rfl⟩) hK hDD hA0 hP hS 0 12 wm0 rfl rfl hl.1 (Nat.le_of_ble_eq_true rfl) dX12_asked_76 (fun A28 H locs hw29 hP hS => ?_)
            obtain ⟨hI, hf30, hw29⟩ := hw29
            have r_A28_0_8 : (0 : Int) ≤ (A28 0 8) ∧ (A28 0 8) ≤ 5 := hI 0 8
            exact J79_26 _ _ _ _ (by exact Hd.mk (by  omega)) hI (fr.trans (fr.rf) hf30 rfl rfl) hP hS (lv_sub hl [0, 1, 2] rfl)
      refine lv_if_le (tgt := 48) hx hb dX12_asked_41 (by decide) (fun c16 => ?_) (fun c16 => ?_)
      · have c16 : (A14 0 8) ≤ 0 := (i_le0 (rb r_A14_0_8 (by decide) (by decide))).mp c16
        refine lv_aload_n hx hb dX12_asked_48 rfl (lv_at hl 0 rfl) ?_
        refine lv_iload_n hx hb dX12_asked_49 rfl (lv_at hl 1 rfl) ?_
        refine lv_aload_n hx hb dX12_asked_50 rfl (lv_at hl 0 rfl) ?_
        have e_A14_7 : A14 0 7 = (A 0 7) := (hj13.2 7 rfl)
        refine va_get (D := (dC, dI)) (ci := 12) (v := .long (jI (A14 0 7))) (C := RX12) (T := TX12) (N := 85) hx hb hts hiX12 hown hK hP 0 wm0 rfl 7 (by decide) (hts _ (List.mem_cons_of_mem _ (wl_in_0 _ (List.mem_of_getElem? (i := 26) rfl)))) (fun _ h9 => h9) rfl dX12_asked_51 ?_
        refine tp_l (y := jI (A 0 7)) (congrArg jI e_A14_7) ?_
        have r_A_0_7 : (-9223372036854775808 : Int) ≤ (A 0 7) ∧ (A 0 7) ≤ 9223372036854775807 := by rw [← e_A14_7]; exact hI 0 7
        have e_A14_47 : A14 0 47 = (A 0 47) := (hj13.2 47 rfl)
        have r_A_0_47 : (0 : Int) ≤ (A 0 47) ∧ (A 0 47) ≤ 1 := by rw [← e_A14_47]; exact hI 0 47
        refine x_calli (As := [.int (iI x1), .long (jI (A 0 7))]) (rest := []) ⟨hx, hb, hml, hown, hts⟩ (mb_X12_named_1 l dC dI cB cI cJ cZ cQ q _ x1 (A 0 7) hI hx1 r_A_0_7) (cwV 2 hts (goodV (wl_in_2 _ (List.mem_of_getElem? (i := 26) rfl)) (wl_in_2 _ (List.mem_of_getElem? (i := 27) rfl)) (wl_in_2 _ (List.mem_of_getElem? (i := 28) rfl)) (wl_in_0 _ (List.mem_of_getElem? (i := 8) rfl)) (wl_in_1 _ (List.mem_of_getElem? (i := 10) rfl))) rfl rfl rfl (by decide +kernel) ⟨Nat.le_of_ble_eq_true rfl, Nat.le_of_ble_eq_true rfl⟩) hK hDD hA0 hP hS 0 12 wm0 rfl rfl hl.1 (Nat.le_of_ble_eq_true rfl) dX12_asked_54 (fun z18 A19 H locs hw20 hP hS => ?_)
        obtain ⟨rfl, hw20⟩ := hw20
        have a_A14_5 : A14 5 = A 5 := (hj13.1 5 (by decide) rfl)
        have a_A14_4 : A14 4 = A 4 := (hj13.1 4 (by decide) rfl)
        rw [a_A14_5, a_A14_4, e_A14_47] at hw20
        exact J57_17 z18 _ _ _ (by omega) (by exact Hd.mk (by  omega)) hP hS (lv_sub hl [0, 1] rfl)
      · have c16 : ¬ (A14 0 8) ≤ 0 := mt (i_le0 (rb r_A14_0_8 (by decide) (by decide))).mpr c16
        refine lv_iconst (v := iI 0) hx hb dX12_asked_44 (by decide +kernel) ?_
        refine lv_goto (tgt := 57) hx hb dX12_asked_45 (by decide) ?_
        exact J57_17 0 _ _ _ (by omega) (by exact Hd.mk (by  omega)) hP hS (lv_sub hl [0, 1] rfl)
    have J28_3 : ∀ (H : Heap) (locs : List Loc) (ls : Array Slot), va_P (dC, dI) vwCl (WM cI cJ cZ q A) H → va_S AS s.heap H locs → lv_has ls 3 [(0, .ref (q 0)), (1, .int (iI x1))] → W p l e (headSpec ws_mb_X12_asked_1 ({ frames := 2, cells := 0, slots := 0, locals := 48 } : Room)).room s m [.ref (q 0), .int (iI x1)].toArray below meth c H locs 0 0 Q (F0 m 28 ls []) := by
      intro H locs ls hP hS hl
      refine lv_aload_n hx hb dX12_asked_28 rfl (lv_at hl 0 rfl) ?_
      refine lv_iconst (v := iI 1) hx hb dX12_asked_29 (by decide +kernel) ?_
      refine lv_aload_n hx hb dX12_asked_30 rfl (lv_at hl 0 rfl) ?_
      refine va_get (D := (dC, dI)) (ci := 12) (v := .int (iI (A 0 4))) (C := RX12) (T := TX12) (N := 85) hx hb hts hiX12 hown hK hP 0 wm0 rfl 4 (by decide) (hts _ (List.mem_cons_of_mem _ (wl_in_0 _ (List.mem_of_getElem? (i := 23) rfl)))) (fun _ h9 => h9) rfl dX12_asked_31 ?_
      have r_A_0_4 : (0 : Int) ≤ (A 0 4) ∧ (A 0 4) ≤ 1600 := hI 0 4
      refine x_callv (As := [.int (iI 1), .int (iI (A 0 4))]) (rest := []) ⟨hx, hb, hml, hown, hts⟩ (mc_X12_blame l dC dI cB cI cJ cZ cQ q _ 1 (A 0 4) hI ⟨by decide, by decide⟩ r_A_0_4) (cwV 2 hts (goodV (wl_in_0 _ (List.mem_of_getElem? (i := 31) rfl)) (wl_in_0 _ (List.mem_of_getElem? (i := 32) rfl)) (wl_in_0 _ (List.mem_of_getElem? (i := 33) rfl)) (wl_in_0 _ (List.mem_of_getElem? (i := 8) rfl)) (wl_in_0 _ (List.mem_of_getElem? (i := 15) rfl))) rfl rfl rfl (by decide +kernel) ⟨Nat.le_of_ble_eq_true rfl, Nat.le_of_ble_eq_true rfl⟩) hK hDD hA0 hP hS 0 12 wm0 rfl rfl hl.1 (Nat.le_of_ble_eq_true rfl) dX12_asked_34 (fun A10 H locs hw11 hP hS => ?_)
      obtain ⟨hI, hf12, hw11⟩ := hw11
      have r_A10_0_8 : (0 : Int) ≤ (A10 0 8) ∧ (A10 0 8) ≤ 5 := hI 0 8
      exact J37_4 _ _ _ _ (by exact Hd.mk (by  omega)) hI (fr.trans (fr.rf) hf12 rfl rfl) hP hS (lv_sub hl [0, 1] rfl)
    refine lv_icmp_ne (tgt := 28) hx hb dX12_asked_14 (by decide) (fun c2 => ?_) (fun c2 => ?_)
    · have c2 : ¬ (A 0 3) = 1 := mt (i_eq (rb r_A_0_3 (by decide) (by decide)) ⟨by decide, by decide⟩).mpr c2
      exact J28_3 _ _ _ hP hS (lv_sub hl [0, 1] rfl)
    · have c2 : (A 0 3) = 1 := (i_eq (rb r_A_0_3 (by decide) (by decide)) ⟨by decide, by decide⟩).mp c2
      refine lv_aload_n hx hb dX12_asked_17 rfl (lv_at hl 0 rfl) ?_
      refine lv_aload_n hx hb dX12_asked_18 rfl (lv_at hl 0 rfl) ?_
      refine va_get (D := (dC, dI)) (ci := 12) (v := .long (jI (A 0 7))) (C := RX12) (T := TX12) (N := 85) hx hb hts hiX12 hown hK hP 0 wm0 rfl 7 (by decide) (hts _ (List.mem_cons_of_mem _ (wl_in_0 _ (List.mem_of_getElem? (i := 26) rfl)))) (fun _ h9 => h9) rfl dX12_asked_19 ?_
      have r_A_0_7 : (-9223372036854775808 : Int) ≤ (A 0 7) ∧ (A 0 7) ≤ 9223372036854775807 := hI 0 7
      refine x_calli (As := [.long (jI (A 0 7))]) (rest := []) ⟨hx, hb, hml, hown, hts⟩ (mb_X12_isOwn l dC dI cB cI cJ cZ cQ q _ (A 0 7) hI r_A_0_7) (cwV 1 hts (goodV (wl_in_2 _ (List.mem_of_getElem? (i := 23) rfl)) (wl_in_2 _ (List.mem_of_getElem? (i := 24) rfl)) (wl_in_2 _ (List.mem_of_getElem? (i := 25) rfl)) (wl_in_0 _ (List.mem_of_getElem? (i := 8) rfl)) (wl_in_0 _ (List.mem_of_getElem? (i := 43) rfl))) rfl rfl rfl (by decide +kernel) ⟨Nat.le_of_ble_eq_true rfl, Nat.le_of_ble_eq_true rfl⟩) hK hDD hA0 hP hS 0 12 wm0 rfl rfl hl.1 (Nat.le_of_ble_eq_true rfl) dX12_asked_22 (fun z5 A6 H locs hw7 hP hS => ?_)
      obtain ⟨rfl, hw7⟩ := hw7
      have rz5 : 0 ≤ z5 ∧ z5 ≤ 1 := hw7.1
      refine lv_if_eq (tgt := 37) hx hb dX12_asked_25 (by decide) (fun c8 => ?_) (fun c8 => ?_)
      · have c8 : z5 = 0 := (i_eq0 (rb rz5 (by decide) (by decide))).mp c8
        exact J37_4 _ _ _ _ (by exact Hd.mk (by  omega)) hI (fr.rf) hP hS (lv_sub hl [0, 1] rfl)
      · have c8 : ¬ z5 = 0 := mt (i_eq0 (rb rz5 (by decide) (by decide))).mpr c8
        exact J28_3 _ _ _ hP hS (lv_sub hl [0, 1] rfl)
  · have c1 : ¬ (A 0 8) ≤ 0 := mt (i_le0 (rb r_A_0_8 (by decide) (by decide))).mpr c1
    refine lv_iconst (v := iI 0) hx hb dX12_asked_7 (by decide +kernel) ?_
    have r_A_0_4 : (0 : Int) ≤ (A 0 4) ∧ (A 0 4) ≤ 1600 := hI 0 4
    exact RET 0 _ _ _ _ _ ⟨hI, fr.rf, hcCB, ⟨by omega, by omega, by omega, Hd.mk (fun h => absurd h (by omega))⟩⟩ hP hS dX12_asked_8

def ws_mb_X12_asked_2 : List Cond := .code yX12_asked cX12_asked 3 (some .int) :: WX
set_option maxHeartbeats 4000000 in
set_option maxRecDepth 100000 in
theorem mb_X12_asked_2 (l : Launch) (dC : Nat → ClassId) (dI : Nat → Nat → Nat) (cB cI cJ cZ cQ : ClassId) (q : Nat → Nat) (A : St) (x1 : Int) (hI : IM A) (hx1 : (2 : Int) ≤ x1 ∧ x1 ≤ 2) (hcCB : CB A) : XMi l yX12_asked ws_mb_X12_asked_2 ({ frames := 2, cells := 0, slots := 0, locals := 48 } : Room) (dC, dI) (tyA cB cI cJ cZ cQ) (WM cI cJ cZ q) A [.ref (q 0), .int (iI x1)] (fun z u => IM u ∧ fr [] [3, 4, 5, 6, 7, 8, 9] A u ∧ CB u ∧ (0 ≤ z ∧ z ≤ 3 ∧ A 0 4 ≤ u 0 4 ∧ Hd (u 0 8 = 0 → A 0 8 = 0 ∧ A 0 3 = 1 ∧ ownz (A 0 7) = 0 ∧ z = lk (A 12) (4 * A 0 47).toNat (A 0 7) (A 11 (A 0 47).toNat).toNat))) := by
  refine x_meti (cc := cX12_asked) (maxL := 3) WM_adr (by decide +kernel) rfl (Nat.le_of_ble_eq_true rfl) (fun p e s m below meth c Q AS ls hx hb hml hown hts hK hDD hA0 hP hS hl RET => ?_)
  have hown : s.vm.findClass RX12 = some m.cls := hown
  have hl : lv_has ls 3 [(0, .ref (q 0)), (1, .int (iI x1))] := hl
  have hiX12 : ∀ w ∈ u_ws RX12 TX12 85, w ∈ ws_mb_X12_asked_2 := fun w h => List.mem_cons_of_mem _ (wx_lay w h)
  obtain ⟨H, hHe⟩ : ∃ H : Heap, H = s.heap := ⟨_, rfl⟩
  rw [← hHe] at hP
  have hS : va_S AS s.heap H [] := by rw [hHe]; exact hS
  suffices hgo : ∀ locs : List Loc, va_S AS s.heap H locs → W p l e (headSpec ws_mb_X12_asked_2 ({ frames := 2, cells := 0, slots := 0, locals := 48 } : Room)).room s m [.ref (q 0), .int (iI x1)].toArray below meth c H locs 0 0 Q (F0 m 0 ls []) by
    have := hgo [] hS
    rw [hHe] at this
    exact this
  clear hS hHe
  intro locs hS
  have hle := CB.le hcCB
  refine lv_aload_n hx hb dX12_asked_0 rfl (lv_at hl 0 rfl) ?_
  refine va_get (D := (dC, dI)) (ci := 12) (v := .int (iI (A 0 8))) (C := RX12) (T := TX12) (N := 85) hx hb hts hiX12 hown hK hP 0 wm0 rfl 8 (by decide) (hts _ (List.mem_cons_of_mem _ (wl_in_0 _ (List.mem_of_getElem? (i := 16) rfl)))) (fun _ h9 => h9) rfl dX12_asked_1 ?_
  have r_A_0_8 : (0 : Int) ≤ (A 0 8) ∧ (A 0 8) ≤ 5 := hI 0 8
  refine lv_if_le (tgt := 9) hx hb dX12_asked_4 (by decide) (fun c1 => ?_) (fun c1 => ?_)
  · have c1 : (A 0 8) ≤ 0 := (i_le0 (rb r_A_0_8 (by decide) (by decide))).mp c1
    refine lv_aload_n hx hb dX12_asked_9 rfl (lv_at hl 0 rfl) ?_
    refine va_get (D := (dC, dI)) (ci := 12) (v := .int (iI (A 0 3))) (C := RX12) (T := TX12) (N := 85) hx hb hts hiX12 hown hK hP 0 wm0 rfl 3 (by decide) (hts _ (List.mem_cons_of_mem _ (wl_in_0 _ (List.mem_of_getElem? (i := 24) rfl)))) (fun _ h9 => h9) rfl dX12_asked_10 ?_
    have r_A_0_3 : (0 : Int) ≤ (A 0 3) ∧ (A 0 3) ≤ 3 := hI 0 3
    refine lv_iconst (v := iI 1) hx hb dX12_asked_13 (by decide +kernel) ?_
    have J37_4 : ∀ (A14 : St) (H : Heap) (locs : List Loc) (ls : Array Slot), (Hd ((A14 0 8) = 0 → A 0 3 = 1 ∧ ownz (A 0 7) = 0)) → IM A14 → fr [] [8, 9] A A14 → va_P (dC, dI) vwCl (WM cI cJ cZ q A14) H → va_S AS s.heap H locs → lv_has ls 3 [(0, .ref (q 0)), (1, .int (iI x1))] → W p l e (headSpec ws_mb_X12_asked_2 ({ frames := 2, cells := 0, slots := 0, locals := 48 } : Room)).room s m [.ref (q 0), .int (iI x1)].toArray below meth c H locs 0 0 Q (F0 m 37 ls []) := by
      intro A14 H locs ls f15 hI hj13 hP hS hl
      refine lv_aload_n hx hb dX12_asked_37 rfl (lv_at hl 0 rfl) ?_
      refine va_get (D := (dC, dI)) (ci := 12) (v := .int (iI (A14 0 8))) (C := RX12) (T := TX12) (N := 85) hx hb hts hiX12 hown hK hP 0 wm0 rfl 8 (by decide) (hts _ (List.mem_cons_of_mem _ (wl_in_0 _ (List.mem_of_getElem? (i := 16) rfl)))) (fun _ h9 => h9) rfl dX12_asked_38 ?_
      have r_A14_0_8 : (0 : Int) ≤ (A14 0 8) ∧ (A14 0 8) ≤ 5 := hI 0 8
      have J57_17 : ∀ (z21 : Int) (H : Heap) (locs : List Loc) (ls : Array Slot), (-1 ≤ z21 ∧ z21 ≤ 3) → (Hd ((A14 0 8) = 0 → z21 = lk (A 12) (4 * A 0 47).toNat (A 0 7) (A 11 (A 0 47).toNat).toNat)) → va_P (dC, dI) vwCl (WM cI cJ cZ q A14) H → va_S AS s.heap H locs → lv_has ls 3 [(0, .ref (q 0)), (1, .int (iI x1))] → W p l e (headSpec ws_mb_X12_asked_2 ({ frames := 2, cells := 0, slots := 0, locals := 48 } : Room)).room s m [.ref (q 0), .int (iI x1)].toArray below meth c H locs 0 0 Q (F0 m 57 ls [.int (iI z21)]) := by
        intro z21 H locs ls f23 f24 hP hS hl
        refine lv_istore_n (lv' := [(2, .int (iI z21)), (0, .ref (q 0)), (1, .int (iI x1))]) hx hb dX12_asked_57 rfl hl (by decide) rfl (fun ls hl => ?_)
        refine lv_aload_n hx hb dX12_asked_58 rfl (lv_at hl 1 rfl) ?_
        refine va_get (D := (dC, dI)) (ci := 12) (v := .int (iI (A14 0 8))) (C := RX12) (T := TX12) (N := 85) hx hb hts hiX12 hown hK hP 0 wm0 rfl 8 (by decide) (hts _ (List.mem_cons_of_mem _ (wl_in_0 _ (List.mem_of_getElem? (i := 16) rfl)))) (fun _ h9 => h9) rfl dX12_asked_59 ?_
        have J79_26 : ∀ (A32 : St) (H : Heap) (locs : List Loc) (ls : Array Slot), (Hd ((A32 0 8) = 0 → (A14 0 8 = 0 ∧ 0 ≤ z21))) → IM A32 → fr [] [8, 9] A14 A32 → va_P (dC, dI) vwCl (WM cI cJ cZ q A32) H → va_S AS s.heap H locs → lv_has ls 3 [(2, .int (iI z21)), (0, .ref (q 0)), (1, .int (iI x1))] → W p l e (headSpec ws_mb_X12_asked_2 ({ frames := 2, cells := 0, slots := 0, locals := 48 } : Room)).room s m [.ref (q 0), .int (iI x1)].toArray below meth c H locs 0 0 Q (F0 m 79 ls []) := by
          intro A32 H locs ls f33 hI hj31 hP hS hl
          refine lv_aload_n hx hb dX12_asked_79 rfl (lv_at hl 1 rfl) ?_
          refine va_get (D := (dC, dI)) (ci := 12) (v := .int (iI (A32 0 8))) (C := RX12) (T := TX12) (N := 85) hx hb hts hiX12 hown hK hP 0 wm0 rfl 8 (by decide) (hts _ (List.mem_cons_of_mem _ (wl_in_0 _ (List.mem_of_getElem? (i := 16) rfl)))) (fun _ h9 => h9) rfl dX12_asked_80 ?_
          have r_A32_0_8 : (0 : Int) ≤ (A32 0 8) ∧ (A32 0 8) ≤ 5 := hI 0 8
          have J90_35 : ∀ (A42 : St) (H : Heap) (locs : List Loc) (ls : Array Slot), (A 0 4 ≤ (A42 0 4)) → (Hd ((A42 0 8) = 0 → A32 0 8 = 0)) → (CB A42) → IM A42 → fr [] [3, 4, 5, 6, 7, 8, 9] A32 A42 → va_P (dC, dI) vwCl (WM cI cJ cZ q A42) H → va_S AS s.heap H locs → lv_has ls 3 [(2, .int (iI z21)), (0, .ref (q 0)), (1, .int (iI x1))] → W p l e (headSpec ws_mb_X12_asked_2 ({ frames := 2, cells := 0, slots := 0, locals := 48 } : Room)).room s m [.ref (q 0), .int (iI x1)].toArray below meth c H locs 0 0 Q (F0 m 90 ls []) := by
            intro A42 H locs ls f43 f44 hc45 hI hj41 hP hS hl
            refine lv_aload_n hx hb dX12_asked_90 rfl (lv_at hl 1 rfl) ?_
            refine va_get (D := (dC, dI)) (ci := 12) (v := .int (iI (A42 0 8))) (C := RX12) (T := TX12) (N := 85) hx hb hts hiX12 hown hK hP 0 wm0 rfl 8 (by decide) (hts _ (List.mem_cons_of_mem _ (wl_in_0 _ (List.mem_of_getElem? (i := 16) rfl)))) (fun _ h9 => h9) rfl dX12_asked_91 ?_
            have r_A42_0_8 : (0 : Int) ≤ (A42 0 8) ∧ (A42 0 8) ≤ 5 := hI 0 8
            refine lv_if_le (tgt := 101) hx hb dX12_asked_94 (by decide) (fun c46 => ?_) (fun c46 => ?_)
            · have c46 : (A42 0 8) ≤ 0 := (i_le0 (rb r_A42_0_8 (by decide) (by decide))).mp c46
              refine lv_iload_n hx hb dX12_asked_101 rfl (lv_at hl 0 rfl) ?_
              have r_A42_0_4 : (0 : Int) ≤ (A42 0 4) ∧ (A42 0 4) ≤ 1600 := hI 0 4
              have hq : Hd (A42 0 8 = 0 → (0 ≤ z21 ∧ A 0 8 = 0 ∧ A 0 3 = 1 ∧ ownz (A 0 7) = 0 ∧ z21 = lk (A 12) (4 * A 0 47).toNat (A 0 7) (A 11 (A 0 47).toNat).toNat)) := Hd.mk (fun h0 => by
                have g4 := f44.out (by omega)
                have g3 := f33.out (by omega)
                have g2 := f24.out (by omega)
                have g1 := f15.out (by omega)
                exact ⟨by omega, by omega, g1.1, g1.2, by omega⟩)
              have hq0 : 0 ≤ z21 := (hq.out (by omega)).1
              exact RET z21 _ _ _ _ _ ⟨hI, fr.trans (fr.trans (fr.trans (fr.rf) hj13 rfl rfl) hj31 rfl rfl) hj41 rfl rfl, hc45, ⟨by omega, by omega, by omega, Hd.mk (fun h => (hq.out h).2)⟩⟩ hP hS dX12_asked_102
            · have c46 : ¬ (A42 0 8) ≤ 0 := mt (i_le0 (rb r_A42_0_8 (by decide) (by decide))).mpr c46
              refine lv_iconst (v := iI 0) hx hb dX12_asked_97 (by decide +kernel) ?_
              refine lv_goto (tgt := 102) hx hb dX12_asked_98 (by decide) ?_
              have r_A42_0_4 : (0 : Int) ≤ (A42 0 4) ∧ (A42 0 4) ≤ 1600 := hI 0 4
              have hq : Hd (A42 0 8 = 0 → (0 ≤ 0 ∧ A 0 8 = 0 ∧ A 0 3 = 1 ∧ ownz (A 0 7) = 0 ∧ 0 = lk (A 12) (4 * A 0 47).toNat (A 0 7) (A 11 (A 0 47).toNat).toNat)) := Hd.mk (fun h0 => by
                have g4 := f44.out (by omega)
                have g3 := f33.out (by omega)
                have g2 := f24.out (by omega)
                have g1 := f15.out (by omega)
                exact ⟨by omega, by omega, g1.1, g1.2, by omega⟩)
              exact RET 0 _ _ _ _ _ ⟨hI, fr.trans (fr.trans (fr.trans (fr.rf) hj13 rfl rfl) hj31 rfl rfl) hj41 rfl rfl, hc45, ⟨by omega, by omega, by omega, Hd.mk (fun h => (hq.out h).2)⟩⟩ hP hS dX12_asked_102
          refine lv_if_ne (tgt := 90) hx hb dX12_asked_83 (by decide) (fun c34 => ?_) (fun c34 => ?_)
          · have c34 : ¬ (A32 0 8) = 0 := mt (i_eq0 (rb r_A32_0_8 (by decide) (by decide))).mpr c34
            have e_A14_4 : A14 0 4 = (A 0 4) := (hj13.2 4 rfl)
            have e_A32_4 : A32 0 4 = (A 0 4) := (hj31.2 4 rfl).trans e_A14_4
            have r_A_0_4 : (0 : Int) ≤ (A 0 4) ∧ (A 0 4) ≤ 1600 := by rw [← e_A32_4]; exact hI 0 4
            exact J90_35 _ _ _ _ (by omega) (by exact Hd.mk (by  omega)) (CB.fr (CB.fr hcCB hj13 rfl rfl) hj31 rfl rfl) hI (fr.rf) hP hS (lv_sub hl [0, 1, 2] rfl)
          · have c34 : (A32 0 8) = 0 := (i_eq0 (rb r_A32_0_8 (by decide) (by decide))).mp c34
            refine lv_aload_n hx hb dX12_asked_86 rfl (lv_at hl 1 rfl) ?_
            have e_A14_4 : A14 0 4 = (A 0 4) := (hj13.2 4 rfl)
            have e_A32_4 : A32 0 4 = (A 0 4) := (hj31.2 4 rfl).trans e_A14_4
            have r_A_0_4 : (0 : Int) ≤ (A 0 4) ∧ (A 0 4) ≤ 1600 := by rw [← e_A32_4]; exact hI 0 4
            have e_A14_5 : A14 0 5 = (A 0 5) := (hj13.2 5 rfl)
            have e_A32_5 : A32 0 5 = (A 0 5) := (hj31.2 5 rfl).trans e_A14_5
            have r_A_0_5 : (0 : Int) ≤ (A 0 5) ∧ (A 0 5) ≤ 1600 := by rw [← e_A32_5]; exact hI 0 5
            refine x_callv (As := []) (rest := []) ⟨hx, hb, hml, hown, hts⟩ (mb_X12_ahead l dC dI cB cI cJ cZ cQ q _ hI) (cwV 0 hts (goodV (wl_in_0 _ (List.mem_of_getElem? (i := 40) rfl)) (wl_in_0 _ (List.mem_of_getElem? (i := 41) rfl)) (wl_in_0 _ (List.mem_of_getElem? (i := 42) rfl)) (wl_in_0 _ (List.mem_of_getElem? (i := 8) rfl)) (wl_in_0 _ (List.mem_of_getElem? (i := 20) rfl))) rfl rfl rfl (by decide +kernel) ⟨Nat.le_of_ble_eq_true rfl, Nat.le_of_ble_eq_true rfl⟩) hK hDD hA0 hP hS 0 12 wm0 rfl rfl hl.1 (Nat.le_of_ble_eq_true rfl) dX12_asked_87 (fun A36 H locs hw37 hP hS => ?_)
            obtain ⟨hI, hf38, hw37⟩ := hw37
            have r_A36_0_3 : (0 : Int) ≤ (A36 0 3) ∧ (A36 0 3) ≤ 3 := hI 0 3
            have r_A36_0_4 : (0 : Int) ≤ (A36 0 4) ∧ (A36 0 4) ≤ 1600 := hI 0 4
            have r_A36_0_5 : (0 : Int) ≤ (A36 0 5) ∧ (A36 0 5) ≤ 1600 := hI 0 5
            have r_A36_0_8 : (0 : Int) ≤ (A36 0 8) ∧ (A36 0 8) ≤ 5 := hI 0 8
            have hv39 := CB.le (CB.fr (CB.fr hcCB hj13 rfl rfl) hj31 rfl rfl)
            have hc40 := CB.ahead (CB.fr (CB.fr hcCB hj13 rfl rfl) hj31 rfl rfl) (hf38.2 46 rfl) hw37.1 hw37.2.1 hw37.2.2.1
            exact J90_35 _ _ _ _ (by omega) (by exact Hd.mk (by  omega)) hc40 hI (fr.trans (fr.rf) hf38 rfl rfl) hP hS (lv_sub hl [0, 1, 2] rfl)
        refine lv_if_ne (tgt := 79) hx hb dX12_asked_62 (by decide) (fun c25 => ?_) (fun c25 => ?_)
        · have c25 : ¬ (A14 0 8) = 0 := mt (i_eq0 (rb r_A14_0_8 (by decide) (by decide))).mpr c25
          exact J79_26 _ _ _ _ (by exact Hd.mk (by  omega)) hI (fr.rf) hP hS (lv_sub hl [0, 1, 2] rfl)
        · have c25 : (A14 0 8) = 0 := (i_eq0 (rb r_A14_0_8 (by decide) (by decide))).mp c25
          refine lv_iload_n hx hb dX12_asked_65 rfl (lv_at hl 0 rfl) ?_
          refine lv_iconst (v := iI (-1)) hx hb dX12_asked_66 (by decide +kernel) ?_
          refine lv_icmp_ne (tgt := 79) hx hb dX12_asked_67 (by decide) (fun c27 => ?_) (fun c27 => ?_)
          · have c27 : ¬ z21 = (-1) := mt (i_eq (rb f23 (by decide) (by decide)) ⟨by decide, by decide⟩).mpr c27
            exact J79_26 _ _ _ _ (by exact Hd.mk (by  omega)) hI (fr.rf) hP hS (lv_sub hl [0, 1, 2] rfl)
          · have c27 : z21 = (-1) := (i_eq (rb f23 (by decide) (by decide)) ⟨by decide, by decide⟩).mp c27
            refine lv_aload_n hx hb dX12_asked_70 rfl (lv_at hl 1 rfl) ?_
            refine lv_iconst (v := iI 3) hx hb dX12_asked_71 (by decide +kernel) ?_
            refine lv_aload_n hx hb dX12_asked_72 rfl (lv_at hl 1 rfl) ?_
            have e_A14_4 : A14 0 4 = (A 0 4) := (hj13.2 4 rfl)
            refine va_get (D := (dC, dI)) (ci := 12) (v := .int (iI (A14 0 4))) (C := RX12) (T := TX12) (N := 85) hx hb hts hiX12 hown hK hP 0 wm0 rfl 4 (by decide) (hts _ (List.mem_cons_of_mem _ (wl_in_0 _ (List.mem_of_getElem? (i := 23) rfl)))) (fun _ h9 => h9) rfl dX12_asked_73 ?_
            refine tp_i (y := iI (A 0 4)) (congrArg iI e_A14_4) ?_
            have r_A_0_4 : (0 : Int) ≤ (A 0 4) ∧ (A 0 4) ≤ 1600 := by rw [← e_A14_4]; exact hI 0 4
            refine x_callv (As := [.int (iI 3), .int (iI (A 0 4))]) (rest := []) ⟨hx, hb, hml, hown, hts⟩ (mc_X12_blame l dC dI cB cI cJ cZ cQ q _ 3 (A 0 4) hI ⟨by decide, by decide⟩ r_A_0_4) (cwV 2 hts (goodV (wl_in_0 _ (List.mem_of_getElem? (i := 31) rfl)) (wl_in_0 _ (List.mem_of_getElem? (i := 32) rfl)) (wl_in_0 _ (List.mem_of_getElem? (i := 33) rfl)) (wl_in_0 _ (List.mem_of_getElem? (i := 8) rfl)) (wl_in_0 _ (List.mem_of_getElem? (i := 15) rfl))) rfl rfl rfl (by decide +kernel) ⟨Nat.le_of_ble_eq_true rfl, Nat.le_of_ble_eq_true rfl⟩) hK hDD hA0 hP hS 0 12 wm0 rfl rfl hl.1 (Nat.le_of_ble_eq_true rfl) dX12_asked_76 (fun A28 H locs hw29 hP hS => ?_)
            obtain ⟨hI, hf30, hw29⟩ := hw29
            have r_A28_0_8 : (0 : Int) ≤ (A28 0 8) ∧ (A28 0 8) ≤ 5 := hI 0 8
            exact J79_26 _ _ _ _ (by exact Hd.mk (by  omega)) hI (fr.trans (fr.rf) hf30 rfl rfl) hP hS (lv_sub hl [0, 1, 2] rfl)
      refine lv_if_le (tgt := 48) hx hb dX12_asked_41 (by decide) (fun c16 => ?_) (fun c16 => ?_)
      · have c16 : (A14 0 8) ≤ 0 := (i_le0 (rb r_A14_0_8 (by decide) (by decide))).mp c16
        refine lv_aload_n hx hb dX12_asked_48 rfl (lv_at hl 0 rfl) ?_
        refine lv_iload_n hx hb dX12_asked_49 rfl (lv_at hl 1 rfl) ?_
        refine lv_aload_n hx hb dX12_asked_50 rfl (lv_at hl 0 rfl) ?_
        have e_A14_7 : A14 0 7 = (A 0 7) := (hj13.2 7 rfl)
        refine va_get (D := (dC, dI)) (ci := 12) (v := .long (jI (A14 0 7))) (C := RX12) (T := TX12) (N := 85) hx hb hts hiX12 hown hK hP 0 wm0 rfl 7 (by decide) (hts _ (List.mem_cons_of_mem _ (wl_in_0 _ (List.mem_of_getElem? (i := 26) rfl)))) (fun _ h9 => h9) rfl dX12_asked_51 ?_
        refine tp_l (y := jI (A 0 7)) (congrArg jI e_A14_7) ?_
        have r_A_0_7 : (-9223372036854775808 : Int) ≤ (A 0 7) ∧ (A 0 7) ≤ 9223372036854775807 := by rw [← e_A14_7]; exact hI 0 7
        have e_A14_47 : A14 0 47 = (A 0 47) := (hj13.2 47 rfl)
        have r_A_0_47 : (0 : Int) ≤ (A 0 47) ∧ (A 0 47) ≤ 1 := by rw [← e_A14_47]; exact hI 0 47
        refine x_calli (As := [.int (iI x1), .long (jI (A 0 7))]) (rest := []) ⟨hx, hb, hml, hown, hts⟩ (mb_X12_named_2 l dC dI cB cI cJ cZ cQ q _ x1 (A 0 7) hI hx1 r_A_0_7) (cwV 2 hts (goodV (wl_in_2 _ (List.mem_of_getElem? (i := 26) rfl)) (wl_in_2 _ (List.mem_of_getElem? (i := 27) rfl)) (wl_in_2 _ (List.mem_of_getElem? (i := 28) rfl)) (wl_in_0 _ (List.mem_of_getElem? (i := 8) rfl)) (wl_in_1 _ (List.mem_of_getElem? (i := 10) rfl))) rfl rfl rfl (by decide +kernel) ⟨Nat.le_of_ble_eq_true rfl, Nat.le_of_ble_eq_true rfl⟩) hK hDD hA0 hP hS 0 12 wm0 rfl rfl hl.1 (Nat.le_of_ble_eq_true rfl) dX12_asked_54 (fun z18 A19 H locs hw20 hP hS => ?_)
        obtain ⟨rfl, hw20⟩ := hw20
        have a_A14_12 : A14 12 = A 12 := (hj13.1 12 (by decide) rfl)
        have a_A14_11 : A14 11 = A 11 := (hj13.1 11 (by decide) rfl)
        rw [a_A14_12, a_A14_11, e_A14_47] at hw20
        exact J57_17 z18 _ _ _ (by omega) (by exact Hd.mk (by  omega)) hP hS (lv_sub hl [0, 1] rfl)
      · have c16 : ¬ (A14 0 8) ≤ 0 := mt (i_le0 (rb r_A14_0_8 (by decide) (by decide))).mpr c16
        refine lv_iconst (v := iI 0) hx hb dX12_asked_44 (by decide +kernel) ?_
        refine lv_goto (tgt := 57) hx hb dX12_asked_45 (by decide) ?_
        exact J57_17 0 _ _ _ (by omega) (by exact Hd.mk (by  omega)) hP hS (lv_sub hl [0, 1] rfl)
    have J28_3 : ∀ (H : Heap) (locs : List Loc) (ls : Array Slot), va_P (dC, dI) vwCl (WM cI cJ cZ q A) H → va_S AS s.heap H locs → lv_has ls 3 [(0, .ref (q 0)), (1, .int (iI x1))] → W p l e (headSpec ws_mb_X12_asked_2 ({ frames := 2, cells := 0, slots := 0, locals := 48 } : Room)).room s m [.ref (q 0), .int (iI x1)].toArray below meth c H locs 0 0 Q (F0 m 28 ls []) := by
      intro H locs ls hP hS hl
      refine lv_aload_n hx hb dX12_asked_28 rfl (lv_at hl 0 rfl) ?_
      refine lv_iconst (v := iI 1) hx hb dX12_asked_29 (by decide +kernel) ?_
      refine lv_aload_n hx hb dX12_asked_30 rfl (lv_at hl 0 rfl) ?_
      refine va_get (D := (dC, dI)) (ci := 12) (v := .int (iI (A 0 4))) (C := RX12) (T := TX12) (N := 85) hx hb hts hiX12 hown hK hP 0 wm0 rfl 4 (by decide) (hts _ (List.mem_cons_of_mem _ (wl_in_0 _ (List.mem_of_getElem? (i := 23) rfl)))) (fun _ h9 => h9) rfl dX12_asked_31 ?_
      have r_A_0_4 : (0 : Int) ≤ (A 0 4) ∧ (A 0 4) ≤ 1600 := hI 0 4
      refine x_callv (As := [.int (iI 1), .int (iI (A 0 4))]) (rest := []) ⟨hx, hb, hml, hown, hts⟩ (mc_X12_blame l dC dI cB cI cJ cZ cQ q _ 1 (A 0 4) hI ⟨by decide, by decide⟩ r_A_0_4) (cwV 2 hts (goodV (wl_in_0 _ (List.mem_of_getElem? (i := 31) rfl)) (wl_in_0 _ (List.mem_of_getElem? (i := 32) rfl)) (wl_in_0 _ (List.mem_of_getElem? (i := 33) rfl)) (wl_in_0 _ (List.mem_of_getElem? (i := 8) rfl)) (wl_in_0 _ (List.mem_of_getElem? (i := 15) rfl))) rfl rfl rfl (by decide +kernel) ⟨Nat.le_of_ble_eq_true rfl, Nat.le_of_ble_eq_true rfl⟩) hK hDD hA0 hP hS 0 12 wm0 rfl rfl hl.1 (Nat.le_of_ble_eq_true rfl) dX12_asked_34 (fun A10 H locs hw11 hP hS => ?_)
      obtain ⟨hI, hf12, hw11⟩ := hw11
      have r_A10_0_8 : (0 : Int) ≤ (A10 0 8) ∧ (A10 0 8) ≤ 5 := hI 0 8
      exact J37_4 _ _ _ _ (by exact Hd.mk (by  omega)) hI (fr.trans (fr.rf) hf12 rfl rfl) hP hS (lv_sub hl [0, 1] rfl)
    refine lv_icmp_ne (tgt := 28) hx hb dX12_asked_14 (by decide) (fun c2 => ?_) (fun c2 => ?_)
    · have c2 : ¬ (A 0 3) = 1 := mt (i_eq (rb r_A_0_3 (by decide) (by decide)) ⟨by decide, by decide⟩).mpr c2
      exact J28_3 _ _ _ hP hS (lv_sub hl [0, 1] rfl)
    · have c2 : (A 0 3) = 1 := (i_eq (rb r_A_0_3 (by decide) (by decide)) ⟨by decide, by decide⟩).mp c2
      refine lv_aload_n hx hb dX12_asked_17 rfl (lv_at hl 0 rfl) ?_
      refine lv_aload_n hx hb dX12_asked_18 rfl (lv_at hl 0 rfl) ?_
      refine va_get (D := (dC, dI)) (ci := 12) (v := .long (jI (A 0 7))) (C := RX12) (T := TX12) (N := 85) hx hb hts hiX12 hown hK hP 0 wm0 rfl 7 (by decide) (hts _ (List.mem_cons_of_mem _ (wl_in_0 _ (List.mem_of_getElem? (i := 26) rfl)))) (fun _ h9 => h9) rfl dX12_asked_19 ?_
      have r_A_0_7 : (-9223372036854775808 : Int) ≤ (A 0 7) ∧ (A 0 7) ≤ 9223372036854775807 := hI 0 7
      refine x_calli (As := [.long (jI (A 0 7))]) (rest := []) ⟨hx, hb, hml, hown, hts⟩ (mb_X12_isOwn l dC dI cB cI cJ cZ cQ q _ (A 0 7) hI r_A_0_7) (cwV 1 hts (goodV (wl_in_2 _ (List.mem_of_getElem? (i := 23) rfl)) (wl_in_2 _ (List.mem_of_getElem? (i := 24) rfl)) (wl_in_2 _ (List.mem_of_getElem? (i := 25) rfl)) (wl_in_0 _ (List.mem_of_getElem? (i := 8) rfl)) (wl_in_0 _ (List.mem_of_getElem? (i := 43) rfl))) rfl rfl rfl (by decide +kernel) ⟨Nat.le_of_ble_eq_true rfl, Nat.le_of_ble_eq_true rfl⟩) hK hDD hA0 hP hS 0 12 wm0 rfl rfl hl.1 (Nat.le_of_ble_eq_true rfl) dX12_asked_22 (fun z5 A6 H locs hw7 hP hS => ?_)
      obtain ⟨rfl, hw7⟩ := hw7
      have rz5 : 0 ≤ z5 ∧ z5 ≤ 1 := hw7.1
      refine lv_if_eq (tgt := 37) hx hb dX12_asked_25 (by decide) (fun c8 => ?_) (fun c8 => ?_)
      · have c8 : z5 = 0 := (i_eq0 (rb rz5 (by decide) (by decide))).mp c8
        exact J37_4 _ _ _ _ (by exact Hd.mk (by  omega)) hI (fr.rf) hP hS (lv_sub hl [0, 1] rfl)
      · have c8 : ¬ z5 = 0 := mt (i_eq0 (rb rz5 (by decide) (by decide))).mpr c8
        exact J28_3 _ _ _ hP hS (lv_sub hl [0, 1] rfl)
  · have c1 : ¬ (A 0 8) ≤ 0 := mt (i_le0 (rb r_A_0_8 (by decide) (by decide))).mpr c1
    refine lv_iconst (v := iI 0) hx hb dX12_asked_7 (by decide +kernel) ?_
    have r_A_0_4 : (0 : Int) ≤ (A 0 4) ∧ (A 0 4) ≤ 1600 := hI 0 4
    exact RET 0 _ _ _ _ _ ⟨hI, fr.rf, hcCB, ⟨by omega, by omega, by omega, Hd.mk (fun h => absurd h (by omega))⟩⟩ hP hS dX12_asked_8

def ws_mb_X12_asked_3 : List Cond := .code yX12_asked cX12_asked 3 (some .int) :: WX
set_option maxHeartbeats 4000000 in
set_option maxRecDepth 100000 in
theorem mb_X12_asked_3 (l : Launch) (dC : Nat → ClassId) (dI : Nat → Nat → Nat) (cB cI cJ cZ cQ : ClassId) (q : Nat → Nat) (A : St) (x1 : Int) (hI : IM A) (hx1 : (3 : Int) ≤ x1 ∧ x1 ≤ 3) (hcCB : CB A) : XMi l yX12_asked ws_mb_X12_asked_3 ({ frames := 2, cells := 0, slots := 0, locals := 48 } : Room) (dC, dI) (tyA cB cI cJ cZ cQ) (WM cI cJ cZ q) A [.ref (q 0), .int (iI x1)] (fun z u => IM u ∧ fr [] [3, 4, 5, 6, 7, 8, 9] A u ∧ CB u ∧ (0 ≤ z ∧ z ≤ 2 ∧ A 0 4 ≤ u 0 4 ∧ Hd (u 0 8 = 0 → A 0 8 = 0 ∧ A 0 3 = 1 ∧ ownz (A 0 7) = 0 ∧ z = lk (A 17) (3 * A 0 47).toNat (A 0 7) (A 16 (A 0 47).toNat).toNat))) := by
  refine x_meti (cc := cX12_asked) (maxL := 3) WM_adr (by decide +kernel) rfl (Nat.le_of_ble_eq_true rfl) (fun p e s m below meth c Q AS ls hx hb hml hown hts hK hDD hA0 hP hS hl RET => ?_)
  have hown : s.vm.findClass RX12 = some m.cls := hown
  have hl : lv_has ls 3 [(0, .ref (q 0)), (1, .int (iI x1))] := hl
  have hiX12 : ∀ w ∈ u_ws RX12 TX12 85, w ∈ ws_mb_X12_asked_3 := fun w h => List.mem_cons_of_mem _ (wx_lay w h)
  obtain ⟨H, hHe⟩ : ∃ H : Heap, H = s.heap := ⟨_, rfl⟩
  rw [← hHe] at hP
  have hS : va_S AS s.heap H [] := by rw [hHe]; exact hS
  suffices hgo : ∀ locs : List Loc, va_S AS s.heap H locs → W p l e (headSpec ws_mb_X12_asked_3 ({ frames := 2, cells := 0, slots := 0, locals := 48 } : Room)).room s m [.ref (q 0), .int (iI x1)].toArray below meth c H locs 0 0 Q (F0 m 0 ls []) by
    have := hgo [] hS
    rw [hHe] at this
    exact this
  clear hS hHe
  intro locs hS
  have hle := CB.le hcCB
  refine lv_aload_n hx hb dX12_asked_0 rfl (lv_at hl 0 rfl) ?_
  refine va_get (D := (dC, dI)) (ci := 12) (v := .int (iI (A 0 8))) (C := RX12) (T := TX12) (N := 85) hx hb hts hiX12 hown hK hP 0 wm0 rfl 8 (by decide) (hts _ (List.mem_cons_of_mem _ (wl_in_0 _ (List.mem_of_getElem? (i := 16) rfl)))) (fun _ h9 => h9) rfl dX12_asked_1 ?_
  have r_A_0_8 : (0 : Int) ≤ (A 0 8) ∧ (A 0 8) ≤ 5 := hI 0 8
  refine lv_if_le (tgt := 9) hx hb dX12_asked_4 (by decide) (fun c1 => ?_) (fun c1 => ?_)
  · have c1 : (A 0 8) ≤ 0 := (i_le0 (rb r_A_0_8 (by decide) (by decide))).mp c1
    refine lv_aload_n hx hb dX12_asked_9 rfl (lv_at hl 0 rfl) ?_
    refine va_get (D := (dC, dI)) (ci := 12) (v := .int (iI (A 0 3))) (C := RX12) (T := TX12) (N := 85) hx hb hts hiX12 hown hK hP 0 wm0 rfl 3 (by decide) (hts _ (List.mem_cons_of_mem _ (wl_in_0 _ (List.mem_of_getElem? (i := 24) rfl)))) (fun _ h9 => h9) rfl dX12_asked_10 ?_
    have r_A_0_3 : (0 : Int) ≤ (A 0 3) ∧ (A 0 3) ≤ 3 := hI 0 3
    refine lv_iconst (v := iI 1) hx hb dX12_asked_13 (by decide +kernel) ?_
    have J37_4 : ∀ (A14 : St) (H : Heap) (locs : List Loc) (ls : Array Slot), (Hd ((A14 0 8) = 0 → A 0 3 = 1 ∧ ownz (A 0 7) = 0)) → IM A14 → fr [] [8, 9] A A14 → va_P (dC, dI) vwCl (WM cI cJ cZ q A14) H → va_S AS s.heap H locs → lv_has ls 3 [(0, .ref (q 0)), (1, .int (iI x1))] → W p l e (headSpec ws_mb_X12_asked_3 ({ frames := 2, cells := 0, slots := 0, locals := 48 } : Room)).room s m [.ref (q 0), .int (iI x1)].toArray below meth c H locs 0 0 Q (F0 m 37 ls []) := by
      intro A14 H locs ls f15 hI hj13 hP hS hl
      refine lv_aload_n hx hb dX12_asked_37 rfl (lv_at hl 0 rfl) ?_
      refine va_get (D := (dC, dI)) (ci := 12) (v := .int (iI (A14 0 8))) (C := RX12) (T := TX12) (N := 85) hx hb hts hiX12 hown hK hP 0 wm0 rfl 8 (by decide) (hts _ (List.mem_cons_of_mem _ (wl_in_0 _ (List.mem_of_getElem? (i := 16) rfl)))) (fun _ h9 => h9) rfl dX12_asked_38 ?_
      have r_A14_0_8 : (0 : Int) ≤ (A14 0 8) ∧ (A14 0 8) ≤ 5 := hI 0 8
      have J57_17 : ∀ (z21 : Int) (H : Heap) (locs : List Loc) (ls : Array Slot), (-1 ≤ z21 ∧ z21 ≤ 2) → (Hd ((A14 0 8) = 0 → z21 = lk (A 17) (3 * A 0 47).toNat (A 0 7) (A 16 (A 0 47).toNat).toNat)) → va_P (dC, dI) vwCl (WM cI cJ cZ q A14) H → va_S AS s.heap H locs → lv_has ls 3 [(0, .ref (q 0)), (1, .int (iI x1))] → W p l e (headSpec ws_mb_X12_asked_3 ({ frames := 2, cells := 0, slots := 0, locals := 48 } : Room)).room s m [.ref (q 0), .int (iI x1)].toArray below meth c H locs 0 0 Q (F0 m 57 ls [.int (iI z21)]) := by
        intro z21 H locs ls f23 f24 hP hS hl
        refine lv_istore_n (lv' := [(2, .int (iI z21)), (0, .ref (q 0)), (1, .int (iI x1))]) hx hb dX12_asked_57 rfl hl (by decide) rfl (fun ls hl => ?_)
        refine lv_aload_n hx hb dX12_asked_58 rfl (lv_at hl 1 rfl) ?_
        refine va_get (D := (dC, dI)) (ci := 12) (v := .int (iI (A14 0 8))) (C := RX12) (T := TX12) (N := 85) hx hb hts hiX12 hown hK hP 0 wm0 rfl 8 (by decide) (hts _ (List.mem_cons_of_mem _ (wl_in_0 _ (List.mem_of_getElem? (i := 16) rfl)))) (fun _ h9 => h9) rfl dX12_asked_59 ?_
        have J79_26 : ∀ (A32 : St) (H : Heap) (locs : List Loc) (ls : Array Slot), (Hd ((A32 0 8) = 0 → (A14 0 8 = 0 ∧ 0 ≤ z21))) → IM A32 → fr [] [8, 9] A14 A32 → va_P (dC, dI) vwCl (WM cI cJ cZ q A32) H → va_S AS s.heap H locs → lv_has ls 3 [(2, .int (iI z21)), (0, .ref (q 0)), (1, .int (iI x1))] → W p l e (headSpec ws_mb_X12_asked_3 ({ frames := 2, cells := 0, slots := 0, locals := 48 } : Room)).room s m [.ref (q 0), .int (iI x1)].toArray below meth c H locs 0 0 Q (F0 m 79 ls []) := by
          intro A32 H locs ls f33 hI hj31 hP hS hl
          refine lv_aload_n hx hb dX12_asked_79 rfl (lv_at hl 1 rfl) ?_
          refine va_get (D := (dC, dI)) (ci := 12) (v := .int (iI (A32 0 8))) (C := RX12) (T := TX12) (N := 85) hx hb hts hiX12 hown hK hP 0 wm0 rfl 8 (by decide) (hts _ (List.mem_cons_of_mem _ (wl_in_0 _ (List.mem_of_getElem? (i := 16) rfl)))) (fun _ h9 => h9) rfl dX12_asked_80 ?_
          have r_A32_0_8 : (0 : Int) ≤ (A32 0 8) ∧ (A32 0 8) ≤ 5 := hI 0 8
          have J90_35 : ∀ (A42 : St) (H : Heap) (locs : List Loc) (ls : Array Slot), (A 0 4 ≤ (A42 0 4)) → (Hd ((A42 0 8) = 0 → A32 0 8 = 0)) → (CB A42) → IM A42 → fr [] [3, 4, 5, 6, 7, 8, 9] A32 A42 → va_P (dC, dI) vwCl (WM cI cJ cZ q A42) H → va_S AS s.heap H locs → lv_has ls 3 [(2, .int (iI z21)), (0, .ref (q 0)), (1, .int (iI x1))] → W p l e (headSpec ws_mb_X12_asked_3 ({ frames := 2, cells := 0, slots := 0, locals := 48 } : Room)).room s m [.ref (q 0), .int (iI x1)].toArray below meth c H locs 0 0 Q (F0 m 90 ls []) := by
            intro A42 H locs ls f43 f44 hc45 hI hj41 hP hS hl
            refine lv_aload_n hx hb dX12_asked_90 rfl (lv_at hl 1 rfl) ?_
            refine va_get (D := (dC, dI)) (ci := 12) (v := .int (iI (A42 0 8))) (C := RX12) (T := TX12) (N := 85) hx hb hts hiX12 hown hK hP 0 wm0 rfl 8 (by decide) (hts _ (List.mem_cons_of_mem _ (wl_in_0 _ (List.mem_of_getElem? (i := 16) rfl)))) (fun _ h9 => h9) rfl dX12_asked_91 ?_
            have r_A42_0_8 : (0 : Int) ≤ (A42 0 8) ∧ (A42 0 8) ≤ 5 := hI 0 8
            refine lv_if_le (tgt := 101) hx hb dX12_asked_94 (by decide) (fun c46 => ?_) (fun c46 => ?_)
            · have c46 : (A42 0 8) ≤ 0 := (i_le0 (rb r_A42_0_8 (by decide) (by decide))).mp c46
              refine lv_iload_n hx hb dX12_asked_101 rfl (lv_at hl 0 rfl) ?_
              have r_A42_0_4 : (0 : Int) ≤ (A42 0 4) ∧ (A42 0 4) ≤ 1600 := hI 0 4
              have hq : Hd (A42 0 8 = 0 → (0 ≤ z21 ∧ A 0 8 = 0 ∧ A 0 3 = 1 ∧ ownz (A 0 7) = 0 ∧ z21 = lk (A 17) (3 * A 0 47).toNat (A 0 7) (A 16 (A 0 47).toNat).toNat)) := Hd.mk (fun h0 => by
                have g4 := f44.out (by omega)
                have g3 := f33.out (by omega)
                have g2 := f24.out (by omega)
                have g1 := f15.out (by omega)
                exact ⟨by omega, by omega, g1.1, g1.2, by omega⟩)
              have hq0 : 0 ≤ z21 := (hq.out (by omega)).1
              exact RET z21 _ _ _ _ _ ⟨hI, fr.trans (fr.trans (fr.trans (fr.rf) hj13 rfl rfl) hj31 rfl rfl) hj41 rfl rfl, hc45, ⟨by omega, by omega, by omega, Hd.mk (fun h => (hq.out h).2)⟩⟩ hP hS dX12_asked_102
            · have c46 : ¬ (A42 0 8) ≤ 0 := mt (i_le0 (rb r_A42_0_8 (by decide) (by decide))).mpr c46
              refine lv_iconst (v := iI 0) hx hb dX12_asked_97 (by decide +kernel) ?_
              refine lv_goto (tgt := 102) hx hb dX12_asked_98 (by decide) ?_
              have r_A42_0_4 : (0 : Int) ≤ (A42 0 4) ∧ (A42 0 4) ≤ 1600 := hI 0 4
              have hq : Hd (A42 0 8 = 0 → (0 ≤ 0 ∧ A 0 8 = 0 ∧ A 0 3 = 1 ∧ ownz (A 0 7) = 0 ∧ 0 = lk (A 17) (3 * A 0 47).toNat (A 0 7) (A 16 (A 0 47).toNat).toNat)) := Hd.mk (fun h0 => by
                have g4 := f44.out (by omega)
                have g3 := f33.out (by omega)
                have g2 := f24.out (by omega)
                have g1 := f15.out (by omega)
                exact ⟨by omega, by omega, g1.1, g1.2, by omega⟩)
              exact RET 0 _ _ _ _ _ ⟨hI, fr.trans (fr.trans (fr.trans (fr.rf) hj13 rfl rfl) hj31 rfl rfl) hj41 rfl rfl, hc45, ⟨by omega, by omega, by omega, Hd.mk (fun h => (hq.out h).2)⟩⟩ hP hS dX12_asked_102
          refine lv_if_ne (tgt := 90) hx hb dX12_asked_83 (by decide) (fun c34 => ?_) (fun c34 => ?_)
          · have c34 : ¬ (A32 0 8) = 0 := mt (i_eq0 (rb r_A32_0_8 (by decide) (by decide))).mpr c34
            have e_A14_4 : A14 0 4 = (A 0 4) := (hj13.2 4 rfl)
            have e_A32_4 : A32 0 4 = (A 0 4) := (hj31.2 4 rfl).trans e_A14_4
            have r_A_0_4 : (0 : Int) ≤ (A 0 4) ∧ (A 0 4) ≤ 1600 := by rw [← e_A32_4]; exact hI 0 4
            exact J90_35 _ _ _ _ (by omega) (by exact Hd.mk (by  omega)) (CB.fr (CB.fr hcCB hj13 rfl rfl) hj31 rfl rfl) hI (fr.rf) hP hS (lv_sub hl [0, 1, 2] rfl)
          · have c34 : (A32 0 8) = 0 := (i_eq0 (rb r_A32_0_8 (by decide) (by decide))).mp c34
            refine lv_aload_n hx hb dX12_asked_86 rfl (lv_at hl 1 rfl) ?_
            have e_A14_4 : A14 0 4 = (A 0 4) := (hj13.2 4 rfl)
            have e_A32_4 : A32 0 4 = (A 0 4) := (hj31.2 4 rfl).trans e_A14_4
            have r_A_0_4 : (0 : Int) ≤ (A 0 4) ∧ (A 0 4) ≤ 1600 := by rw [← e_A32_4]; exact hI 0 4
            have e_A14_5 : A14 0 5 = (A 0 5) := (hj13.2 5 rfl)
            have e_A32_5 : A32 0 5 = (A 0 5) := (hj31.2 5 rfl).trans e_A14_5
            have r_A_0_5 : (0 : Int) ≤ (A 0 5) ∧ (A 0 5) ≤ 1600 := by rw [← e_A32_5]; exact hI 0 5
            refine x_callv (As := []) (rest := []) ⟨hx, hb, hml, hown, hts⟩ (mb_X12_ahead l dC dI cB cI cJ cZ cQ q _ hI) (cwV 0 hts (goodV (wl_in_0 _ (List.mem_of_getElem? (i := 40) rfl)) (wl_in_0 _ (List.mem_of_getElem? (i := 41) rfl)) (wl_in_0 _ (List.mem_of_getElem? (i := 42) rfl)) (wl_in_0 _ (List.mem_of_getElem? (i := 8) rfl)) (wl_in_0 _ (List.mem_of_getElem? (i := 20) rfl))) rfl rfl rfl (by decide +kernel) ⟨Nat.le_of_ble_eq_true rfl, Nat.le_of_ble_eq_true rfl⟩) hK hDD hA0 hP hS 0 12 wm0 rfl rfl hl.1 (Nat.le_of_ble_eq_true rfl) dX12_asked_87 (fun A36 H locs hw37 hP hS => ?_)
            obtain ⟨hI, hf38, hw37⟩ := hw37
            have r_A36_0_3 : (0 : Int) ≤ (A36 0 3) ∧ (A36 0 3) ≤ 3 := hI 0 3
            have r_A36_0_4 : (0 : Int) ≤ (A36 0 4) ∧ (A36 0 4) ≤ 1600 := hI 0 4
            have r_A36_0_5 : (0 : Int) ≤ (A36 0 5) ∧ (A36 0 5) ≤ 1600 := hI 0 5
            have r_A36_0_8 : (0 : Int) ≤ (A36 0 8) ∧ (A36 0 8) ≤ 5 := hI 0 8
            have hv39 := CB.le (CB.fr (CB.fr hcCB hj13 rfl rfl) hj31 rfl rfl)
            have hc40 := CB.ahead (CB.fr (CB.fr hcCB hj13 rfl rfl) hj31 rfl rfl) (hf38.2 46 rfl) hw37.1 hw37.2.1 hw37.2.2.1
            exact J90_35 _ _ _ _ (by omega) (by exact Hd.mk (by  omega)) hc40 hI (fr.trans (fr.rf) hf38 rfl rfl) hP hS (lv_sub hl [0, 1, 2] rfl)
        refine lv_if_ne (tgt := 79) hx hb dX12_asked_62 (by decide) (fun c25 => ?_) (fun c25 => ?_)
        · have c25 : ¬ (A14 0 8) = 0 := mt (i_eq0 (rb r_A14_0_8 (by decide) (by decide))).mpr c25
          exact J79_26 _ _ _ _ (by exact Hd.mk (by  omega)) hI (fr.rf) hP hS (lv_sub hl [0, 1, 2] rfl)
        · have c25 : (A14 0 8) = 0 := (i_eq0 (rb r_A14_0_8 (by decide) (by decide))).mp c25
          refine lv_iload_n hx hb dX12_asked_65 rfl (lv_at hl 0 rfl) ?_
          refine lv_iconst (v := iI (-1)) hx hb dX12_asked_66 (by decide +kernel) ?_
          refine lv_icmp_ne (tgt := 79) hx hb dX12_asked_67 (by decide) (fun c27 => ?_) (fun c27 => ?_)
          · have c27 : ¬ z21 = (-1) := mt (i_eq (rb f23 (by decide) (by decide)) ⟨by decide, by decide⟩).mpr c27
            exact J79_26 _ _ _ _ (by exact Hd.mk (by  omega)) hI (fr.rf) hP hS (lv_sub hl [0, 1, 2] rfl)
          · have c27 : z21 = (-1) := (i_eq (rb f23 (by decide) (by decide)) ⟨by decide, by decide⟩).mp c27
            refine lv_aload_n hx hb dX12_asked_70 rfl (lv_at hl 1 rfl) ?_
            refine lv_iconst (v := iI 3) hx hb dX12_asked_71 (by decide +kernel) ?_
            refine lv_aload_n hx hb dX12_asked_72 rfl (lv_at hl 1 rfl) ?_
            have e_A14_4 : A14 0 4 = (A 0 4) := (hj13.2 4 rfl)
            refine va_get (D := (dC, dI)) (ci := 12) (v := .int (iI (A14 0 4))) (C := RX12) (T := TX12) (N := 85) hx hb hts hiX12 hown hK hP 0 wm0 rfl 4 (by decide) (hts _ (List.mem_cons_of_mem _ (wl_in_0 _ (List.mem_of_getElem? (i := 23) rfl)))) (fun _ h9 => h9) rfl dX12_asked_73 ?_
            refine tp_i (y := iI (A 0 4)) (congrArg iI e_A14_4) ?_
            have r_A_0_4 : (0 : Int) ≤ (A 0 4) ∧ (A 0 4) ≤ 1600 := by rw [← e_A14_4]; exact hI 0 4
            refine x_callv (As := [.int (iI 3), .int (iI (A 0 4))]) (rest := []) ⟨hx, hb, hml, hown, hts⟩ (mc_X12_blame l dC dI cB cI cJ cZ cQ q _ 3 (A 0 4) hI ⟨by decide, by decide⟩ r_A_0_4) (cwV 2 hts (goodV (wl_in_0 _ (List.mem_of_getElem? (i := 31) rfl)) (wl_in_0 _ (List.mem_of_getElem? (i := 32) rfl)) (wl_in_0 _ (List.mem_of_getElem? (i := 33) rfl)) (wl_in_0 _ (List.mem_of_getElem? (i := 8) rfl)) (wl_in_0 _ (List.mem_of_getElem? (i := 15) rfl))) rfl rfl rfl (by decide +kernel) ⟨Nat.le_of_ble_eq_true rfl, Nat.le_of_ble_eq_true rfl⟩) hK hDD hA0 hP hS 0 12 wm0 rfl rfl hl.1 (Nat.le_of_ble_eq_true rfl) dX12_asked_76 (fun A28 H locs hw29 hP hS => ?_)
            obtain ⟨hI, hf30, hw29⟩ := hw29
            have r_A28_0_8 : (0 : Int) ≤ (A28 0 8) ∧ (A28 0 8) ≤ 5 := hI 0 8
            exact J79_26 _ _ _ _ (by exact Hd.mk (by  omega)) hI (fr.trans (fr.rf) hf30 rfl rfl) hP hS (lv_sub hl [0, 1, 2] rfl)
      refine lv_if_le (tgt := 48) hx hb dX12_asked_41 (by decide) (fun c16 => ?_) (fun c16 => ?_)
      · have c16 : (A14 0 8) ≤ 0 := (i_le0 (rb r_A14_0_8 (by decide) (by decide))).mp c16
        refine lv_aload_n hx hb dX12_asked_48 rfl (lv_at hl 0 rfl) ?_
        refine lv_iload_n hx hb dX12_asked_49 rfl (lv_at hl 1 rfl) ?_
        refine lv_aload_n hx hb dX12_asked_50 rfl (lv_at hl 0 rfl) ?_
        have e_A14_7 : A14 0 7 = (A 0 7) := (hj13.2 7 rfl)
        refine va_get (D := (dC, dI)) (ci := 12) (v := .long (jI (A14 0 7))) (C := RX12) (T := TX12) (N := 85) hx hb hts hiX12 hown hK hP 0 wm0 rfl 7 (by decide) (hts _ (List.mem_cons_of_mem _ (wl_in_0 _ (List.mem_of_getElem? (i := 26) rfl)))) (fun _ h9 => h9) rfl dX12_asked_51 ?_
        refine tp_l (y := jI (A 0 7)) (congrArg jI e_A14_7) ?_
        have r_A_0_7 : (-9223372036854775808 : Int) ≤ (A 0 7) ∧ (A 0 7) ≤ 9223372036854775807 := by rw [← e_A14_7]; exact hI 0 7
        have e_A14_47 : A14 0 47 = (A 0 47) := (hj13.2 47 rfl)
        have r_A_0_47 : (0 : Int) ≤ (A 0 47) ∧ (A 0 47) ≤ 1 := by rw [← e_A14_47]; exact hI 0 47
        refine x_calli (As := [.int (iI x1), .long (jI (A 0 7))]) (rest := []) ⟨hx, hb, hml, hown, hts⟩ (mb_X12_named_3 l dC dI cB cI cJ cZ cQ q _ x1 (A 0 7) hI hx1 r_A_0_7) (cwV 2 hts (goodV (wl_in_2 _ (List.mem_of_getElem? (i := 26) rfl)) (wl_in_2 _ (List.mem_of_getElem? (i := 27) rfl)) (wl_in_2 _ (List.mem_of_getElem? (i := 28) rfl)) (wl_in_0 _ (List.mem_of_getElem? (i := 8) rfl)) (wl_in_1 _ (List.mem_of_getElem? (i := 10) rfl))) rfl rfl rfl (by decide +kernel) ⟨Nat.le_of_ble_eq_true rfl, Nat.le_of_ble_eq_true rfl⟩) hK hDD hA0 hP hS 0 12 wm0 rfl rfl hl.1 (Nat.le_of_ble_eq_true rfl) dX12_asked_54 (fun z18 A19 H locs hw20 hP hS => ?_)
        obtain ⟨rfl, hw20⟩ := hw20
        have a_A14_17 : A14 17 = A 17 := (hj13.1 17 (by decide) rfl)
        have a_A14_16 : A14 16 = A 16 := (hj13.1 16 (by decide) rfl)
        rw [a_A14_17, a_A14_16, e_A14_47] at hw20
        exact J57_17 z18 _ _ _ (by omega) (by exact Hd.mk (by  omega)) hP hS (lv_sub hl [0, 1] rfl)
      · have c16 : ¬ (A14 0 8) ≤ 0 := mt (i_le0 (rb r_A14_0_8 (by decide) (by decide))).mpr c16
        refine lv_iconst (v := iI 0) hx hb dX12_asked_44 (by decide +kernel) ?_
        refine lv_goto (tgt := 57) hx hb dX12_asked_45 (by decide) ?_
        exact J57_17 0 _ _ _ (by omega) (by exact Hd.mk (by  omega)) hP hS (lv_sub hl [0, 1] rfl)
    have J28_3 : ∀ (H : Heap) (locs : List Loc) (ls : Array Slot), va_P (dC, dI) vwCl (WM cI cJ cZ q A) H → va_S AS s.heap H locs → lv_has ls 3 [(0, .ref (q 0)), (1, .int (iI x1))] → W p l e (headSpec ws_mb_X12_asked_3 ({ frames := 2, cells := 0, slots := 0, locals := 48 } : Room)).room s m [.ref (q 0), .int (iI x1)].toArray below meth c H locs 0 0 Q (F0 m 28 ls []) := by
      intro H locs ls hP hS hl
      refine lv_aload_n hx hb dX12_asked_28 rfl (lv_at hl 0 rfl) ?_
      refine lv_iconst (v := iI 1) hx hb dX12_asked_29 (by decide +kernel) ?_
      refine lv_aload_n hx hb dX12_asked_30 rfl (lv_at hl 0 rfl) ?_
      refine va_get (D := (dC, dI)) (ci := 12) (v := .int (iI (A 0 4))) (C := RX12) (T := TX12) (N := 85) hx hb hts hiX12 hown hK hP 0 wm0 rfl 4 (by decide) (hts _ (List.mem_cons_of_mem _ (wl_in_0 _ (List.mem_of_getElem? (i := 23) rfl)))) (fun _ h9 => h9) rfl dX12_asked_31 ?_
      have r_A_0_4 : (0 : Int) ≤ (A 0 4) ∧ (A 0 4) ≤ 1600 := hI 0 4
      refine x_callv (As := [.int (iI 1), .int (iI (A 0 4))]) (rest := []) ⟨hx, hb, hml, hown, hts⟩ (mc_X12_blame l dC dI cB cI cJ cZ cQ q _ 1 (A 0 4) hI ⟨by decide, by decide⟩ r_A_0_4) (cwV 2 hts (goodV (wl_in_0 _ (List.mem_of_getElem? (i := 31) rfl)) (wl_in_0 _ (List.mem_of_getElem? (i := 32) rfl)) (wl_in_0 _ (List.mem_of_getElem? (i := 33) rfl)) (wl_in_0 _ (List.mem_of_getElem? (i := 8) rfl)) (wl_in_0 _ (List.mem_of_getElem? (i := 15) rfl))) rfl rfl rfl (by decide +kernel) ⟨Nat.le_of_ble_eq_true rfl, Nat.le_of_ble_eq_true rfl⟩) hK hDD hA0 hP hS 0 12 wm0 rfl rfl hl.1 (Nat.le_of_ble_eq_true rfl) dX12_asked_34 (fun A10 H locs hw11 hP hS => ?_)
      obtain ⟨hI, hf12, hw11⟩ := hw11
      have r_A10_0_8 : (0 : Int) ≤ (A10 0 8) ∧ (A10 0 8) ≤ 5 := hI 0 8
      exact J37_4 _ _ _ _ (by exact Hd.mk (by  omega)) hI (fr.trans (fr.rf) hf12 rfl rfl) hP hS (lv_sub hl [0, 1] rfl)
    refine lv_icmp_ne (tgt := 28) hx hb dX12_asked_14 (by decide) (fun c2 => ?_) (fun c2 => ?_)
    · have c2 : ¬ (A 0 3) = 1 := mt (i_eq (rb r_A_0_3 (by decide) (by decide)) ⟨by decide, by decide⟩).mpr c2
      exact J28_3 _ _ _ hP hS (lv_sub hl [0, 1] rfl)
    · have c2 : (A 0 3) = 1 := (i_eq (rb r_A_0_3 (by decide) (by decide)) ⟨by decide, by decide⟩).mp c2
      refine lv_aload_n hx hb dX12_asked_17 rfl (lv_at hl 0 rfl) ?_
      refine lv_aload_n hx hb dX12_asked_18 rfl (lv_at hl 0 rfl) ?_
      refine va_get (D := (dC, dI)) (ci := 12) (v := .long (jI (A 0 7))) (C := RX12) (T := TX12) (N := 85) hx hb hts hiX12 hown hK hP 0 wm0 rfl 7 (by decide) (hts _ (List.mem_cons_of_mem _ (wl_in_0 _ (List.mem_of_getElem? (i := 26) rfl)))) (fun _ h9 => h9) rfl dX12_asked_19 ?_
      have r_A_0_7 : (-9223372036854775808 : Int) ≤ (A 0 7) ∧ (A 0 7) ≤ 9223372036854775807 := hI 0 7
      refine x_calli (As := [.long (jI (A 0 7))]) (rest := []) ⟨hx, hb, hml, hown, hts⟩ (mb_X12_isOwn l dC dI cB cI cJ cZ cQ q _ (A 0 7) hI r_A_0_7) (cwV 1 hts (goodV (wl_in_2 _ (List.mem_of_getElem? (i := 23) rfl)) (wl_in_2 _ (List.mem_of_getElem? (i := 24) rfl)) (wl_in_2 _ (List.mem_of_getElem? (i := 25) rfl)) (wl_in_0 _ (List.mem_of_getElem? (i := 8) rfl)) (wl_in_0 _ (List.mem_of_getElem? (i := 43) rfl))) rfl rfl rfl (by decide +kernel) ⟨Nat.le_of_ble_eq_true rfl, Nat.le_of_ble_eq_true rfl⟩) hK hDD hA0 hP hS 0 12 wm0 rfl rfl hl.1 (Nat.le_of_ble_eq_true rfl) dX12_asked_22 (fun z5 A6 H locs hw7 hP hS => ?_)
      obtain ⟨rfl, hw7⟩ := hw7
      have rz5 : 0 ≤ z5 ∧ z5 ≤ 1 := hw7.1
      refine lv_if_eq (tgt := 37) hx hb dX12_asked_25 (by decide) (fun c8 => ?_) (fun c8 => ?_)
      · have c8 : z5 = 0 := (i_eq0 (rb rz5 (by decide) (by decide))).mp c8
        exact J37_4 _ _ _ _ (by exact Hd.mk (by  omega)) hI (fr.rf) hP hS (lv_sub hl [0, 1] rfl)
      · have c8 : ¬ z5 = 0 := mt (i_eq0 (rb rz5 (by decide) (by decide))).mpr c8
        exact J28_3 _ _ _ hP hS (lv_sub hl [0, 1] rfl)
  · have c1 : ¬ (A 0 8) ≤ 0 := mt (i_le0 (rb r_A_0_8 (by decide) (by decide))).mpr c1
    refine lv_iconst (v := iI 0) hx hb dX12_asked_7 (by decide +kernel) ?_
    have r_A_0_4 : (0 : Int) ≤ (A 0 4) ∧ (A 0 4) ≤ 1600 := hI 0 4
    exact RET 0 _ _ _ _ _ ⟨hI, fr.rf, hcCB, ⟨by omega, by omega, by omega, Hd.mk (fun h => absurd h (by omega))⟩⟩ hP hS dX12_asked_8

def ws_mb_X12_asked_4 : List Cond := .code yX12_asked cX12_asked 3 (some .int) :: WX
set_option maxHeartbeats 4000000 in
set_option maxRecDepth 100000 in
theorem mb_X12_asked_4 (l : Launch) (dC : Nat → ClassId) (dI : Nat → Nat → Nat) (cB cI cJ cZ cQ : ClassId) (q : Nat → Nat) (A : St) (x1 : Int) (hI : IM A) (hx1 : (4 : Int) ≤ x1 ∧ x1 ≤ 4) (hcCB : CB A) : XMi l yX12_asked ws_mb_X12_asked_4 ({ frames := 2, cells := 0, slots := 0, locals := 48 } : Room) (dC, dI) (tyA cB cI cJ cZ cQ) (WM cI cJ cZ q) A [.ref (q 0), .int (iI x1)] (fun z u => IM u ∧ fr [] [3, 4, 5, 6, 7, 8, 9] A u ∧ CB u ∧ (0 ≤ z ∧ z ≤ 3 ∧ A 0 4 ≤ u 0 4 ∧ Hd (u 0 8 = 0 → A 0 8 = 0 ∧ A 0 3 = 1 ∧ ownz (A 0 7) = 0 ∧ z = lk (A 20) (4 * A 0 47).toNat (A 0 7) (A 19 (A 0 47).toNat).toNat))) := by
  refine x_meti (cc := cX12_asked) (maxL := 3) WM_adr (by decide +kernel) rfl (Nat.le_of_ble_eq_true rfl) (fun p e s m below meth c Q AS ls hx hb hml hown hts hK hDD hA0 hP hS hl RET => ?_)
  have hown : s.vm.findClass RX12 = some m.cls := hown
  have hl : lv_has ls 3 [(0, .ref (q 0)), (1, .int (iI x1))] := hl
  have hiX12 : ∀ w ∈ u_ws RX12 TX12 85, w ∈ ws_mb_X12_asked_4 := fun w h => List.mem_cons_of_mem _ (wx_lay w h)
  obtain ⟨H, hHe⟩ : ∃ H : Heap, H = s.heap := ⟨_, rfl⟩
  rw [← hHe] at hP
  have hS : va_S AS s.heap H [] := by rw [hHe]; exact hS
  suffices hgo : ∀ locs : List Loc, va_S AS s.heap H locs → W p l e (headSpec ws_mb_X12_asked_4 ({ frames := 2, cells := 0, slots := 0, locals := 48 } : Room)).room s m [.ref (q 0), .int (iI x1)].toArray below meth c H locs 0 0 Q (F0 m 0 ls []) by
    have := hgo [] hS
    rw [hHe] at this
    exact this
  clear hS hHe
  intro locs hS
  have hle := CB.le hcCB
  refine lv_aload_n hx hb dX12_asked_0 rfl (lv_at hl 0 rfl) ?_
  refine va_get (D := (dC, dI)) (ci := 12) (v := .int (iI (A 0 8))) (C := RX12) (T := TX12) (N := 85) hx hb hts hiX12 hown hK hP 0 wm0 rfl 8 (by decide) (hts _ (List.mem_cons_of_mem _ (wl_in_0 _ (List.mem_of_getElem? (i := 16) rfl)))) (fun _ h9 => h9) rfl dX12_asked_1 ?_
  have r_A_0_8 : (0 : Int) ≤ (A 0 8) ∧ (A 0 8) ≤ 5 := hI 0 8
  refine lv_if_le (tgt := 9) hx hb dX12_asked_4 (by decide) (fun c1 => ?_) (fun c1 => ?_)
  · have c1 : (A 0 8) ≤ 0 := (i_le0 (rb r_A_0_8 (by decide) (by decide))).mp c1
    refine lv_aload_n hx hb dX12_asked_9 rfl (lv_at hl 0 rfl) ?_
    refine va_get (D := (dC, dI)) (ci := 12) (v := .int (iI (A 0 3))) (C := RX12) (T := TX12) (N := 85) hx hb hts hiX12 hown hK hP 0 wm0 rfl 3 (by decide) (hts _ (List.mem_cons_of_mem _ (wl_in_0 _ (List.mem_of_getElem? (i := 24) rfl)))) (fun _ h9 => h9) rfl dX12_asked_10 ?_
    have r_A_0_3 : (0 : Int) ≤ (A 0 3) ∧ (A 0 3) ≤ 3 := hI 0 3
    refine lv_iconst (v := iI 1) hx hb dX12_asked_13 (by decide +kernel) ?_
    have J37_4 : ∀ (A14 : St) (H : Heap) (locs : List Loc) (ls : Array Slot), (Hd ((A14 0 8) = 0 → A 0 3 = 1 ∧ ownz (A 0 7) = 0)) → IM A14 → fr [] [8, 9] A A14 → va_P (dC, dI) vwCl (WM cI cJ cZ q A14) H → va_S AS s.heap H locs → lv_has ls 3 [(0, .ref (q 0)), (1, .int (iI x1))] → W p l e (headSpec ws_mb_X12_asked_4 ({ frames := 2, cells := 0, slots := 0, locals := 48 } : Room)).room s m [.ref (q 0), .int (iI x1)].toArray below meth c H locs 0 0 Q (F0 m 37 ls []) := by
      intro A14 H locs ls f15 hI hj13 hP hS hl
      refine lv_aload_n hx hb dX12_asked_37 rfl (lv_at hl 0 rfl) ?_
      refine va_get (D := (dC, dI)) (ci := 12) (v := .int (iI (A14 0 8))) (C := RX12) (T := TX12) (N := 85) hx hb hts hiX12 hown hK hP 0 wm0 rfl 8 (by decide) (hts _ (List.mem_cons_of_mem _ (wl_in_0 _ (List.mem_of_getElem? (i := 16) rfl)))) (fun _ h9 => h9) rfl dX12_asked_38 ?_
      have r_A14_0_8 : (0 : Int) ≤ (A14 0 8) ∧ (A14 0 8) ≤ 5 := hI 0 8
      have J57_17 : ∀ (z21 : Int) (H : Heap) (locs : List Loc) (ls : Array Slot), (-1 ≤ z21 ∧ z21 ≤ 3) → (Hd ((A14 0 8) = 0 → z21 = lk (A 20) (4 * A 0 47).toNat (A 0 7) (A 19 (A 0 47).toNat).toNat)) → va_P (dC, dI) vwCl (WM cI cJ cZ q A14) H → va_S AS s.heap H locs → lv_has ls 3 [(0, .ref (q 0)), (1, .int (iI x1))] → W p l e (headSpec ws_mb_X12_asked_4 ({ frames := 2, cells := 0, slots := 0, locals := 48 } : Room)).room s m [.ref (q 0), .int (iI x1)].toArray below meth c H locs 0 0 Q (F0 m 57 ls [.int (iI z21)]) := by
        intro z21 H locs ls f23 f24 hP hS hl
        refine lv_istore_n (lv' := [(2, .int (iI z21)), (0, .ref (q 0)), (1, .int (iI x1))]) hx hb dX12_asked_57 rfl hl (by decide) rfl (fun ls hl => ?_)
        refine lv_aload_n hx hb dX12_asked_58 rfl (lv_at hl 1 rfl) ?_
        refine va_get (D := (dC, dI)) (ci := 12) (v := .int (iI (A14 0 8))) (C := RX12) (T := TX12) (N := 85) hx hb hts hiX12 hown hK hP 0 wm0 rfl 8 (by decide) (hts _ (List.mem_cons_of_mem _ (wl_in_0 _ (List.mem_of_getElem? (i := 16) rfl)))) (fun _ h9 => h9) rfl dX12_asked_59 ?_
        have J79_26 : ∀ (A32 : St) (H : Heap) (locs : List Loc) (ls : Array Slot), (Hd ((A32 0 8) = 0 → (A14 0 8 = 0 ∧ 0 ≤ z21))) → IM A32 → fr [] [8, 9] A14 A32 → va_P (dC, dI) vwCl (WM cI cJ cZ q A32) H → va_S AS s.heap H locs → lv_has ls 3 [(2, .int (iI z21)), (0, .ref (q 0)), (1, .int (iI x1))] → W p l e (headSpec ws_mb_X12_asked_4 ({ frames := 2, cells := 0, slots := 0, locals := 48 } : Room)).room s m [.ref (q 0), .int (iI x1)].toArray below meth c H locs 0 0 Q (F0 m 79 ls []) := by
          intro A32 H locs ls f33 hI hj31 hP hS hl
          refine lv_aload_n hx hb dX12_asked_79 rfl (lv_at hl 1 rfl) ?_
          refine va_get (D := (dC, dI)) (ci := 12) (v := .int (iI (A32 0 8))) (C := RX12) (T := TX12) (N := 85) hx hb hts hiX12 hown hK hP 0 wm0 rfl 8 (by decide) (hts _ (List.mem_cons_of_mem _ (wl_in_0 _ (List.mem_of_getElem? (i := 16) rfl)))) (fun _ h9 => h9) rfl dX12_asked_80 ?_
          have r_A32_0_8 : (0 : Int) ≤ (A32 0 8) ∧ (A32 0 8) ≤ 5 := hI 0 8
          have J90_35 : ∀ (A42 : St) (H : Heap) (locs : List Loc) (ls : Array Slot), (A 0 4 ≤ (A42 0 4)) → (Hd ((A42 0 8) = 0 → A32 0 8 = 0)) → (CB A42) → IM A42 → fr [] [3, 4, 5, 6, 7, 8, 9] A32 A42 → va_P (dC, dI) vwCl (WM cI cJ cZ q A42) H → va_S AS s.heap H locs → lv_has ls 3 [(2, .int (iI z21)), (0, .ref (q 0)), (1, .int (iI x1))] → W p l e (headSpec ws_mb_X12_asked_4 ({ frames := 2, cells := 0, slots := 0, locals := 48 } : Room)).room s m [.ref (q 0), .int (iI x1)].toArray below meth c H locs 0 0 Q (F0 m 90 ls []) := by
            intro A42 H locs ls f43 f44 hc45 hI hj41 hP hS hl
            refine lv_aload_n hx hb dX12_asked_90 rfl (lv_at hl 1 rfl) ?_
            refine va_get (D := (dC, dI)) (ci := 12) (v := .int (iI (A42 0 8))) (C := RX12) (T := TX12) (N := 85) hx hb hts hiX12 hown hK hP 0 wm0 rfl 8 (by decide) (hts _ (List.mem_cons_of_mem _ (wl_in_0 _ (List.mem_of_getElem? (i := 16) rfl)))) (fun _ h9 => h9) rfl dX12_asked_91 ?_
            have r_A42_0_8 : (0 : Int) ≤ (A42 0 8) ∧ (A42 0 8) ≤ 5 := hI 0 8
            refine lv_if_le (tgt := 101) hx hb dX12_asked_94 (by decide) (fun c46 => ?_) (fun c46 => ?_)
            · have c46 : (A42 0 8) ≤ 0 := (i_le0 (rb r_A42_0_8 (by decide) (by decide))).mp c46
              refine lv_iload_n hx hb dX12_asked_101 rfl (lv_at hl 0 rfl) ?_
              have r_A42_0_4 : (0 : Int) ≤ (A42 0 4) ∧ (A42 0 4) ≤ 1600 := hI 0 4
              have hq : Hd (A42 0 8 = 0 → (0 ≤ z21 ∧ A 0 8 = 0 ∧ A 0 3 = 1 ∧ ownz (A 0 7) = 0 ∧ z21 = lk (A 20) (4 * A 0 47).toNat (A 0 7) (A 19 (A 0 47).toNat).toNat)) := Hd.mk (fun h0 => by
                have g4 := f44.out (by omega)
                have g3 := f33.out (by omega)
                have g2 := f24.out (by omega)
                have g1 := f15.out (by omega)
                exact ⟨by omega, by omega, g1.1, g1.2, by omega⟩)
              have hq0 : 0 ≤ z21 := (hq.out (by omega)).1
              exact RET z21 _ _ _ _ _ ⟨hI, fr.trans (fr.trans (fr.trans (fr.rf) hj13 rfl rfl) hj31 rfl rfl) hj41 rfl rfl, hc45, ⟨by omega, by omega, by omega, Hd.mk (fun h => (hq.out h).2)⟩⟩ hP hS dX12_asked_102
            · have c46 : ¬ (A42 0 8) ≤ 0 := mt (i_le0 (rb r_A42_0_8 (by decide) (by decide))).mpr c46
              refine lv_iconst (v := iI 0) hx hb dX12_asked_97 (by decide +kernel) ?_
              refine lv_goto (tgt := 102) hx hb dX12_asked_98 (by decide) ?_
              have r_A42_0_4 : (0 : Int) ≤ (A42 0 4) ∧ (A42 0 4) ≤ 1600 := hI 0 4
              have hq : Hd (A42 0 8 = 0 → (0 ≤ 0 ∧ A 0 8 = 0 ∧ A 0 3 = 1 ∧ ownz (A 0 7) = 0 ∧ 0 = lk (A 20) (4 * A 0 47).toNat (A 0 7) (A 19 (A 0 47).toNat).toNat)) := Hd.mk (fun h0 => by
                have g4 := f44.out (by omega)
                have g3 := f33.out (by omega)
                have g2 := f24.out (by omega)
                have g1 := f15.out (by omega)
                exact ⟨by omega, by omega, g1.1, g1.2, by omega⟩)
              exact RET 0 _ _ _ _ _ ⟨hI, fr.trans (fr.trans (fr.trans (fr.rf) hj13 rfl rfl) hj31 rfl rfl) hj41 rfl rfl, hc45, ⟨by omega, by omega, by omega, Hd.mk (fun h => (hq.out h).2)⟩⟩ hP hS dX12_asked_102
          refine lv_if_ne (tgt := 90) hx hb dX12_asked_83 (by decide) (fun c34 => ?_) (fun c34 => ?_)
          · have c34 : ¬ (A32 0 8) = 0 := mt (i_eq0 (rb r_A32_0_8 (by decide) (by decide))).mpr c34
            have e_A14_4 : A14 0 4 = (A 0 4) := (hj13.2 4 rfl)
            have e_A32_4 : A32 0 4 = (A 0 4) := (hj31.2 4 rfl).trans e_A14_4
            have r_A_0_4 : (0 : Int) ≤ (A 0 4) ∧ (A 0 4) ≤ 1600 := by rw [← e_A32_4]; exact hI 0 4
            exact J90_35 _ _ _ _ (by omega) (by exact Hd.mk (by  omega)) (CB.fr (CB.fr hcCB hj13 rfl rfl) hj31 rfl rfl) hI (fr.rf) hP hS (lv_sub hl [0, 1, 2] rfl)
          · have c34 : (A32 0 8) = 0 := (i_eq0 (rb r_A32_0_8 (by decide) (by decide))).mp c34
            refine lv_aload_n hx hb dX12_asked_86 rfl (lv_at hl 1 rfl) ?_
            have e_A14_4 : A14 0 4 = (A 0 4) := (hj13.2 4 rfl)
            have e_A32_4 : A32 0 4 = (A 0 4) := (hj31.2 4 rfl).trans e_A14_4
            have r_A_0_4 : (0 : Int) ≤ (A 0 4) ∧ (A 0 4) ≤ 1600 := by rw [← e_A32_4]; exact hI 0 4
            have e_A14_5 : A14 0 5 = (A 0 5) := (hj13.2 5 rfl)
            have e_A32_5 : A32 0 5 = (A 0 5) := (hj31.2 5 rfl).trans e_A14_5
            have r_A_0_5 : (0 : Int) ≤ (A 0 5) ∧ (A 0 5) ≤ 1600 := by rw [← e_A32_5]; exact hI 0 5
            refine x_callv (As := []) (rest := []) ⟨hx, hb, hml, hown, hts⟩ (mb_X12_ahead l dC dI cB cI cJ cZ cQ q _ hI) (cwV 0 hts (goodV (wl_in_0 _ (List.mem_of_getElem? (i := 40) rfl)) (wl_in_0 _ (List.mem_of_getElem? (i := 41) rfl)) (wl_in_0 _ (List.mem_of_getElem? (i := 42) rfl)) (wl_in_0 _ (List.mem_of_getElem? (i := 8) rfl)) (wl_in_0 _ (List.mem_of_getElem? (i := 20) rfl))) rfl rfl rfl (by decide +kernel) ⟨Nat.le_of_ble_eq_true rfl, Nat.le_of_ble_eq_true rfl⟩) hK hDD hA0 hP hS 0 12 wm0 rfl rfl hl.1 (Nat.le_of_ble_eq_true rfl) dX12_asked_87 (fun A36 H locs hw37 hP hS => ?_)
            obtain ⟨hI, hf38, hw37⟩ := hw37
            have r_A36_0_3 : (0 : Int) ≤ (A36 0 3) ∧ (A36 0 3) ≤ 3 := hI 0 3
            have r_A36_0_4 : (0 : Int) ≤ (A36 0 4) ∧ (A36 0 4) ≤ 1600 := hI 0 4
            have r_A36_0_5 : (0 : Int) ≤ (A36 0 5) ∧ (A36 0 5) ≤ 1600 := hI 0 5
            have r_A36_0_8 : (0 : Int) ≤ (A36 0 8) ∧ (A36 0 8) ≤ 5 := hI 0 8
            have hv39 := CB.le (CB.fr (CB.fr hcCB hj13 rfl rfl) hj31 rfl rfl)
            have hc40 := CB.ahead (CB.fr (CB.fr hcCB hj13 rfl rfl) hj31 rfl rfl) (hf38.2 46 rfl) hw37.1 hw37.2.1 hw37.2.2.1
            exact J90_35 _ _ _ _ (by omega) (by exact Hd.mk (by  omega)) hc40 hI (fr.trans (fr.rf) hf38 rfl rfl) hP hS (lv_sub hl [0, 1, 2] rfl)
        refine lv_if_ne (tgt := 79) hx hb dX12_asked_62 (by decide) (fun c25 => ?_) (fun c25 => ?_)
        · have c25 : ¬ (A14 0 8) = 0 := mt (i_eq0 (rb r_A14_0_8 (by decide) (by decide))).mpr c25
          exact J79_26 _ _ _ _ (by exact Hd.mk (by  omega)) hI (fr.rf) hP hS (lv_sub hl [0, 1, 2] rfl)
        · have c25 : (A14 0 8) = 0 := (i_eq0 (rb r_A14_0_8 (by decide) (by decide))).mp c25
          refine lv_iload_n hx hb dX12_asked_65 rfl (lv_at hl 0 rfl) ?_
          refine lv_iconst (v := iI (-1)) hx hb dX12_asked_66 (by decide +kernel) ?_
          refine lv_icmp_ne (tgt := 79) hx hb dX12_asked_67 (by decide) (fun c27 => ?_) (fun c27 => ?_)
          · have c27 : ¬ z21 = (-1) := mt (i_eq (rb f23 (by decide) (by decide)) ⟨by decide, by decide⟩).mpr c27
            exact J79_26 _ _ _ _ (by exact Hd.mk (by  omega)) hI (fr.rf) hP hS (lv_sub hl [0, 1, 2] rfl)
          · have c27 : z21 = (-1) := (i_eq (rb f23 (by decide) (by decide)) ⟨by decide, by decide⟩).mp c27
            refine lv_aload_n hx hb dX12_asked_70 rfl (lv_at hl 1 rfl) ?_
            refine lv_iconst (v := iI 3) hx hb dX12_asked_71 (by decide +kernel) ?_
            refine lv_aload_n hx hb dX12_asked_72 rfl (lv_at hl 1 rfl) ?_
            have e_A14_4 : A14 0 4 = (A 0 4) := (hj13.2 4 rfl)
            refine va_get (D := (dC, dI)) (ci := 12) (v := .int (iI (A14 0 4))) (C := RX12) (T := TX12) (N := 85) hx hb hts hiX12 hown hK hP 0 wm0 rfl 4 (by decide) (hts _ (List.mem_cons_of_mem _ (wl_in_0 _ (List.mem_of_getElem? (i := 23) rfl)))) (fun _ h9 => h9) rfl dX12_asked_73 ?_
            refine tp_i (y := iI (A 0 4)) (congrArg iI e_A14_4) ?_
            have r_A_0_4 : (0 : Int) ≤ (A 0 4) ∧ (A 0 4) ≤ 1600 := by rw [← e_A14_4]; exact hI 0 4
            refine x_callv (As := [.int (iI 3), .int (iI (A 0 4))]) (rest := []) ⟨hx, hb, hml, hown, hts⟩ (mc_X12_blame l dC dI cB cI cJ cZ cQ q _ 3 (A 0 4) hI ⟨by decide, by decide⟩ r_A_0_4) (cwV 2 hts (goodV (wl_in_0 _ (List.mem_of_getElem? (i := 31) rfl)) (wl_in_0 _ (List.mem_of_getElem? (i := 32) rfl)) (wl_in_0 _ (List.mem_of_getElem? (i := 33) rfl)) (wl_in_0 _ (List.mem_of_getElem? (i := 8) rfl)) (wl_in_0 _ (List.mem_of_getElem? (i := 15) rfl))) rfl rfl rfl (by decide +kernel) ⟨Nat.le_of_ble_eq_true rfl, Nat.le_of_ble_eq_true rfl⟩) hK hDD hA0 hP hS 0 12 wm0 rfl rfl hl.1 (Nat.le_of_ble_eq_true rfl) dX12_asked_76 (fun A28 H locs hw29 hP hS => ?_)
            obtain ⟨hI, hf30, hw29⟩ := hw29
            have r_A28_0_8 : (0 : Int) ≤ (A28 0 8) ∧ (A28 0 8) ≤ 5 := hI 0 8
            exact J79_26 _ _ _ _ (by exact Hd.mk (by  omega)) hI (fr.trans (fr.rf) hf30 rfl rfl) hP hS (lv_sub hl [0, 1, 2] rfl)
      refine lv_if_le (tgt := 48) hx hb dX12_asked_41 (by decide) (fun c16 => ?_) (fun c16 => ?_)
      · have c16 : (A14 0 8) ≤ 0 := (i_le0 (rb r_A14_0_8 (by decide) (by decide))).mp c16
        refine lv_aload_n hx hb dX12_asked_48 rfl (lv_at hl 0 rfl) ?_
        refine lv_iload_n hx hb dX12_asked_49 rfl (lv_at hl 1 rfl) ?_
        refine lv_aload_n hx hb dX12_asked_50 rfl (lv_at hl 0 rfl) ?_
        have e_A14_7 : A14 0 7 = (A 0 7) := (hj13.2 7 rfl)
        refine va_get (D := (dC, dI)) (ci := 12) (v := .long (jI (A14 0 7))) (C := RX12) (T := TX12) (N := 85) hx hb hts hiX12 hown hK hP 0 wm0 rfl 7 (by decide) (hts _ (List.mem_cons_of_mem _ (wl_in_0 _ (List.mem_of_getElem? (i := 26) rfl)))) (fun _ h9 => h9) rfl dX12_asked_51 ?_
        refine tp_l (y := jI (A 0 7)) (congrArg jI e_A14_7) ?_
        have r_A_0_7 : (-9223372036854775808 : Int) ≤ (A 0 7) ∧ (A 0 7) ≤ 9223372036854775807 := by rw [← e_A14_7]; exact hI 0 7
        have e_A14_47 : A14 0 47 = (A 0 47) := (hj13.2 47 rfl)
        have r_A_0_47 : (0 : Int) ≤ (A 0 47) ∧ (A 0 47) ≤ 1 := by rw [← e_A14_47]; exact hI 0 47
        refine x_calli (As := [.int (iI x1), .long (jI (A 0 7))]) (rest := []) ⟨hx, hb, hml, hown, hts⟩ (mb_X12_named_4 l dC dI cB cI cJ cZ cQ q _ x1 (A 0 7) hI hx1 r_A_0_7) (cwV 2 hts (goodV (wl_in_2 _ (List.mem_of_getElem? (i := 26) rfl)) (wl_in_2 _ (List.mem_of_getElem? (i := 27) rfl)) (wl_in_2 _ (List.mem_of_getElem? (i := 28) rfl)) (wl_in_0 _ (List.mem_of_getElem? (i := 8) rfl)) (wl_in_1 _ (List.mem_of_getElem? (i := 10) rfl))) rfl rfl rfl (by decide +kernel) ⟨Nat.le_of_ble_eq_true rfl, Nat.le_of_ble_eq_true rfl⟩) hK hDD hA0 hP hS 0 12 wm0 rfl rfl hl.1 (Nat.le_of_ble_eq_true rfl) dX12_asked_54 (fun z18 A19 H locs hw20 hP hS => ?_)
        obtain ⟨rfl, hw20⟩ := hw20
        have a_A14_20 : A14 20 = A 20 := (hj13.1 20 (by decide) rfl)
        have a_A14_19 : A14 19 = A 19 := (hj13.1 19 (by decide) rfl)
        rw [a_A14_20, a_A14_19, e_A14_47] at hw20
        exact J57_17 z18 _ _ _ (by omega) (by exact Hd.mk (by  omega)) hP hS (lv_sub hl [0, 1] rfl)
      · have c16 : ¬ (A14 0 8) ≤ 0 := mt (i_le0 (rb r_A14_0_8 (by decide) (by decide))).mpr c16
        refine lv_iconst (v := iI 0) hx hb dX12_asked_44 (by decide +kernel) ?_
        refine lv_goto (tgt := 57) hx hb dX12_asked_45 (by decide) ?_
        exact J57_17 0 _ _ _ (by omega) (by exact Hd.mk (by  omega)) hP hS (lv_sub hl [0, 1] rfl)
    have J28_3 : ∀ (H : Heap) (locs : List Loc) (ls : Array Slot), va_P (dC, dI) vwCl (WM cI cJ cZ q A) H → va_S AS s.heap H locs → lv_has ls 3 [(0, .ref (q 0)), (1, .int (iI x1))] → W p l e (headSpec ws_mb_X12_asked_4 ({ frames := 2, cells := 0, slots := 0, locals := 48 } : Room)).room s m [.ref (q 0), .int (iI x1)].toArray below meth c H locs 0 0 Q (F0 m 28 ls []) := by
      intro H locs ls hP hS hl
      refine lv_aload_n hx hb dX12_asked_28 rfl (lv_at hl 0 rfl) ?_
      refine lv_iconst (v := iI 1) hx hb dX12_asked_29 (by decide +kernel) ?_
      refine lv_aload_n hx hb dX12_asked_30 rfl (lv_at hl 0 rfl) ?_
      refine va_get (D := (dC, dI)) (ci := 12) (v := .int (iI (A 0 4))) (C := RX12) (T := TX12) (N := 85) hx hb hts hiX12 hown hK hP 0 wm0 rfl 4 (by decide) (hts _ (List.mem_cons_of_mem _ (wl_in_0 _ (List.mem_of_getElem? (i := 23) rfl)))) (fun _ h9 => h9) rfl dX12_asked_31 ?_
      have r_A_0_4 : (0 : Int) ≤ (A 0 4) ∧ (A 0 4) ≤ 1600 := hI 0 4
      refine x_callv (As := [.int (iI 1), .int (iI (A 0 4))]) (rest := []) ⟨hx, hb, hml, hown, hts⟩ (mc_X12_blame l dC dI cB cI cJ cZ cQ q _ 1 (A 0 4) hI ⟨by decide, by decide⟩ r_A_0_4) (cwV 2 hts (goodV (wl_in_0 _ (List.mem_of_getElem? (i := 31) rfl)) (wl_in_0 _ (List.mem_of_getElem? (i := 32) rfl)) (wl_in_0 _ (List.mem_of_getElem? (i := 33) rfl)) (wl_in_0 _ (List.mem_of_getElem? (i := 8) rfl)) (wl_in_0 _ (List.mem_of_getElem? (i := 15) rfl))) rfl rfl rfl (by decide +kernel) ⟨Nat.le_of_ble_eq_true rfl, Nat.le_of_ble_eq_true rfl⟩) hK hDD hA0 hP hS 0 12 wm0 rfl rfl hl.1 (Nat.le_of_ble_eq_true rfl) dX12_asked_34 (fun A10 H locs hw11 hP hS => ?_)
      obtain ⟨hI, hf12, hw11⟩ := hw11
      have r_A10_0_8 : (0 : Int) ≤ (A10 0 8) ∧ (A10 0 8) ≤ 5 := hI 0 8
      exact J37_4 _ _ _ _ (by exact Hd.mk (by  omega)) hI (fr.trans (fr.rf) hf12 rfl rfl) hP hS (lv_sub hl [0, 1] rfl)
    refine lv_icmp_ne (tgt := 28) hx hb dX12_asked_14 (by decide) (fun c2 => ?_) (fun c2 => ?_)
    · have c2 : ¬ (A 0 3) = 1 := mt (i_eq (rb r_A_0_3 (by decide) (by decide)) ⟨by decide, by decide⟩).mpr c2
      exact J28_3 _ _ _ hP hS (lv_sub hl [0, 1] rfl)
    · have c2 : (A 0 3) = 1 := (i_eq (rb r_A_0_3 (by decide) (by decide)) ⟨by decide, by decide⟩).mp c2
      refine lv_aload_n hx hb dX12_asked_17 rfl (lv_at hl 0 rfl) ?_
      refine lv_aload_n hx hb dX12_asked_18 rfl (lv_at hl 0 rfl) ?_
      refine va_get (D := (dC, dI)) (ci := 12) (v := .long (jI (A 0 7))) (C := RX12) (T := TX12) (N := 85) hx hb hts hiX12 hown hK hP 0 wm0 rfl 7 (by decide) (hts _ (List.mem_cons_of_mem _ (wl_in_0 _ (List.mem_of_getElem? (i := 26) rfl)))) (fun _ h9 => h9) rfl dX12_asked_19 ?_
      have r_A_0_7 : (-9223372036854775808 : Int) ≤ (A 0 7) ∧ (A 0 7) ≤ 9223372036854775807 := hI 0 7
      refine x_calli (As := [.long (jI (A 0 7))]) (rest := []) ⟨hx, hb, hml, hown, hts⟩ (mb_X12_isOwn l dC dI cB cI cJ cZ cQ q _ (A 0 7) hI r_A_0_7) (cwV 1 hts (goodV (wl_in_2 _ (List.mem_of_getElem? (i := 23) rfl)) (wl_in_2 _ (List.mem_of_getElem? (i := 24) rfl)) (wl_in_2 _ (List.mem_of_getElem? (i := 25) rfl)) (wl_in_0 _ (List.mem_of_getElem? (i := 8) rfl)) (wl_in_0 _ (List.mem_of_getElem? (i := 43) rfl))) rfl rfl rfl (by decide +kernel) ⟨Nat.le_of_ble_eq_true rfl, Nat.le_of_ble_eq_true rfl⟩) hK hDD hA0 hP hS 0 12 wm0 rfl rfl hl.1 (Nat.le_of_ble_eq_true rfl) dX12_asked_22 (fun z5 A6 H locs hw7 hP hS => ?_)
      obtain ⟨rfl, hw7⟩ := hw7
      have rz5 : 0 ≤ z5 ∧ z5 ≤ 1 := hw7.1
      refine lv_if_eq (tgt := 37) hx hb dX12_asked_25 (by decide) (fun c8 => ?_) (fun c8 => ?_)
      · have c8 : z5 = 0 := (i_eq0 (rb rz5 (by decide) (by decide))).mp c8
        exact J37_4 _ _ _ _ (by exact Hd.mk (by  omega)) hI (fr.rf) hP hS (lv_sub hl [0, 1] rfl)
      · have c8 : ¬ z5 = 0 := mt (i_eq0 (rb rz5 (by decide) (by decide))).mpr c8
        exact J28_3 _ _ _ hP hS (lv_sub hl [0, 1] rfl)
  · have c1 : ¬ (A 0 8) ≤ 0 := mt (i_le0 (rb r_A_0_8 (by decide) (by decide))).mpr c1
    refine lv_iconst (v := iI 0) hx hb dX12_asked_7 (by decide +kernel) ?_
    have r_A_0_4 : (0 : Int) ≤ (A 0 4) ∧ (A 0 4) ≤ 1600 := hI 0 4
    exact RET 0 _ _ _ _ _ ⟨hI, fr.rf, hcCB, ⟨by omega, by omega, by omega, Hd.mk (fun h => absurd h (by omega))⟩⟩ hP hS dX12_asked_8

def ws_mb_X12_must : List Cond := .code yX12_must cX12_must 2 none :: WX
set_option maxHeartbeats 4000000 in
set_option maxRecDepth 100000 in
theorem mb_X12_must (l : Launch) (dC : Nat → ClassId) (dI : Nat → Nat → Nat) (cB cI cJ cZ cQ : ClassId) (q : Nat → Nat) (A : St) (x1 : Int) (hI : IM A) (hx1 : (-2147483648 : Int) ≤ x1 ∧ x1 ≤ 2147483647) (hcCB : CB A) : XMv l yX12_must ws_mb_X12_must ({ frames := 2, cells := 0, slots := 0, locals := 47 } : Room) (dC, dI) (tyA cB cI cJ cZ cQ) (WM cI cJ cZ q) A [.ref (q 0), .int (iI x1)] (fun u => IM u ∧ fr [] [3, 4, 5, 6, 7, 8, 9] A u ∧ CB u ∧ (A 0 4 ≤ u 0 4)) := by
  refine x_metv (cc := cX12_must) (maxL := 2) WM_adr (by decide +kernel) rfl (Nat.le_of_ble_eq_true rfl) (fun p e s m below meth c Q AS ls hx hb hml hown hts hK hDD hA0 hP hS hl RET => ?_)
  have hown : s.vm.findClass RX12 = some m.cls := hown
  have hl : lv_has ls 2 [(0, .ref (q 0)), (1, .int (iI x1))] := hl
  have hiX12 : ∀ w ∈ u_ws RX12 TX12 85, w ∈ ws_mb_X12_must := fun w h => List.mem_cons_of_mem _ (wx_lay w h)
  obtain ⟨H, hHe⟩ : ∃ H : Heap, H = s.heap := ⟨_, rfl⟩
  rw [← hHe] at hP
  have hS : va_S AS s.heap H [] := by rw [hHe]; exact hS
  suffices hgo : ∀ locs : List Loc, va_S AS s.heap H locs → W p l e (headSpec ws_mb_X12_must ({ frames := 2, cells := 0, slots := 0, locals := 47 } : Room)).room s m [.ref (q 0), .int (iI x1)].toArray below meth c H locs 0 0 Q (F0 m 0 ls []) by
    have := hgo [] hS
    rw [hHe] at this
    exact this
  clear hS hHe
  intro locs hS
  have hle := CB.le hcCB
  refine lv_aload_n hx hb dX12_must_0 rfl (lv_at hl 0 rfl) ?_
  refine lv_iload_n hx hb dX12_must_1 rfl (lv_at hl 1 rfl) ?_
  have r_A_0_3 : (0 : Int) ≤ (A 0 3) ∧ (A 0 3) ≤ 3 := hI 0 3
  have r_A_0_6 : (-2147483648 : Int) ≤ (A 0 6) ∧ (A 0 6) ≤ 2147483647 := hI 0 6
  refine x_calli (As := [.int (iI x1)]) (rest := []) ⟨hx, hb, hml, hown, hts⟩ (mb_X12_isSign l dC dI cB cI cJ cZ cQ q _ x1 hI hx1) (cwV 1 hts (goodV (wl_in_0 _ (List.mem_of_getElem? (i := 37) rfl)) (wl_in_0 _ (List.mem_of_getElem? (i := 38) rfl)) (wl_in_0 _ (List.mem_of_getElem? (i := 39) rfl)) (wl_in_0 _ (List.mem_of_getElem? (i := 8) rfl)) (wl_in_0 _ (List.mem_of_getElem? (i := 34) rfl))) rfl rfl rfl (by decide +kernel) ⟨Nat.le_of_ble_eq_true rfl, Nat.le_of_ble_eq_true rfl⟩) hK hDD hA0 hP hS 0 12 wm0 rfl rfl hl.1 (Nat.le_of_ble_eq_true rfl) dX12_must_2 (fun z1 A2 H locs hw3 hP hS => ?_)
  obtain ⟨rfl, hw3⟩ := hw3
  have rz1 : 0 ≤ z1 ∧ z1 ≤ 1 := hw3.1
  have J17_5 : ∀ (A10 : St) (H : Heap) (locs : List Loc) (ls : Array Slot), IM A10 → fr [] [8, 9] A A10 → va_P (dC, dI) vwCl (WM cI cJ cZ q A10) H → va_S AS s.heap H locs → lv_has ls 2 [(0, .ref (q 0)), (1, .int (iI x1))] → W p l e (headSpec ws_mb_X12_must ({ frames := 2, cells := 0, slots := 0, locals := 47 } : Room)).room s m [.ref (q 0), .int (iI x1)].toArray below meth c H locs 0 0 Q (F0 m 17 ls []) := by
    intro A10 H locs ls hI hj9 hP hS hl
    refine lv_aload_n hx hb dX12_must_17 rfl (lv_at hl 0 rfl) ?_
    refine va_get (D := (dC, dI)) (ci := 12) (v := .int (iI (A10 0 8))) (C := RX12) (T := TX12) (N := 85) hx hb hts hiX12 hown hK hP 0 wm0 rfl 8 (by decide) (hts _ (List.mem_cons_of_mem _ (wl_in_0 _ (List.mem_of_getElem? (i := 16) rfl)))) (fun _ h9 => h9) rfl dX12_must_18 ?_
    have r_A10_0_8 : (0 : Int) ≤ (A10 0 8) ∧ (A10 0 8) ≤ 5 := hI 0 8
    refine lv_if_ne (tgt := 28) hx hb dX12_must_21 (by decide) (fun c11 => ?_) (fun c11 => ?_)
    · have c11 : ¬ (A10 0 8) = 0 := mt (i_eq0 (rb r_A10_0_8 (by decide) (by decide))).mpr c11
      have e_A10_4 : A10 0 4 = (A 0 4) := (hj9.2 4 rfl)
      have r_A_0_4 : (0 : Int) ≤ (A 0 4) ∧ (A 0 4) ≤ 1600 := by rw [← e_A10_4]; exact hI 0 4
      exact RET _ _ _ _ _ ⟨hI, fr.trans (fr.rf) hj9 rfl rfl, (CB.fr hcCB hj9 rfl rfl), by omega⟩ hP hS dX12_must_28
    · have c11 : (A10 0 8) = 0 := (i_eq0 (rb r_A10_0_8 (by decide) (by decide))).mp c11
      refine lv_aload_n hx hb dX12_must_24 rfl (lv_at hl 0 rfl) ?_
      have e_A10_4 : A10 0 4 = (A 0 4) := (hj9.2 4 rfl)
      have r_A_0_4 : (0 : Int) ≤ (A 0 4) ∧ (A 0 4) ≤ 1600 := by rw [← e_A10_4]; exact hI 0 4
      have e_A10_5 : A10 0 5 = (A 0 5) := (hj9.2 5 rfl)
      have r_A_0_5 : (0 : Int) ≤ (A 0 5) ∧ (A 0 5) ≤ 1600 := by rw [← e_A10_5]; exact hI 0 5
      refine x_callv (As := []) (rest := []) ⟨hx, hb, hml, hown, hts⟩ (mb_X12_ahead l dC dI cB cI cJ cZ cQ q _ hI) (cwV 0 hts (goodV (wl_in_0 _ (List.mem_of_getElem? (i := 40) rfl)) (wl_in_0 _ (List.mem_of_getElem? (i := 41) rfl)) (wl_in_0 _ (List.mem_of_getElem? (i := 42) rfl)) (wl_in_0 _ (List.mem_of_getElem? (i := 8) rfl)) (wl_in_0 _ (List.mem_of_getElem? (i := 20) rfl))) rfl rfl rfl (by decide +kernel) ⟨Nat.le_of_ble_eq_true rfl, Nat.le_of_ble_eq_true rfl⟩) hK hDD hA0 hP hS 0 12 wm0 rfl rfl hl.1 (Nat.le_of_ble_eq_true rfl) dX12_must_25 (fun A12 H locs hw13 hP hS => ?_)
      obtain ⟨hI, hf14, hw13⟩ := hw13
      have r_A12_0_3 : (0 : Int) ≤ (A12 0 3) ∧ (A12 0 3) ≤ 3 := hI 0 3
      have r_A12_0_4 : (0 : Int) ≤ (A12 0 4) ∧ (A12 0 4) ≤ 1600 := hI 0 4
      have r_A12_0_5 : (0 : Int) ≤ (A12 0 5) ∧ (A12 0 5) ≤ 1600 := hI 0 5
      have r_A12_0_8 : (0 : Int) ≤ (A12 0 8) ∧ (A12 0 8) ≤ 5 := hI 0 8
      have hv15 := CB.le (CB.fr hcCB hj9 rfl rfl)
      have hc16 := CB.ahead (CB.fr hcCB hj9 rfl rfl) (hf14.2 46 rfl) hw13.1 hw13.2.1 hw13.2.2.1
      exact RET _ _ _ _ _ ⟨hI, fr.trans (fr.trans (fr.rf) hj9 rfl rfl) hf14 rfl rfl, hc16, by omega⟩ hP hS dX12_must_28
  refine lv_if_ne (tgt := 17) hx hb dX12_must_5 (by decide) (fun c4 => ?_) (fun c4 => ?_)
  · have c4 : ¬ z1 = 0 := mt (i_eq0 (rb rz1 (by decide) (by decide))).mpr c4
    exact J17_5 _ _ _ _ hI (fr.rf) hP hS (lv_sub hl [0, 1] rfl)
  · have c4 : z1 = 0 := (i_eq0 (rb rz1 (by decide) (by decide))).mp c4
    refine lv_aload_n hx hb dX12_must_8 rfl (lv_at hl 0 rfl) ?_
    refine lv_iconst (v := iI 1) hx hb dX12_must_9 (by decide +kernel) ?_
    refine lv_aload_n hx hb dX12_must_10 rfl (lv_at hl 0 rfl) ?_
    refine va_get (D := (dC, dI)) (ci := 12) (v := .int (iI (A 0 4))) (C := RX12) (T := TX12) (N := 85) hx hb hts hiX12 hown hK hP 0 wm0 rfl 4 (by decide) (hts _ (List.mem_cons_of_mem _ (wl_in_0 _ (List.mem_of_getElem? (i := 23) rfl)))) (fun _ h9 => h9) rfl dX12_must_11 ?_
    have r_A_0_4 : (0 : Int) ≤ (A 0 4) ∧ (A 0 4) ≤ 1600 := hI 0 4
    refine x_callv (As := [.int (iI 1), .int (iI (A 0 4))]) (rest := []) ⟨hx, hb, hml, hown, hts⟩ (mc_X12_blame l dC dI cB cI cJ cZ cQ q _ 1 (A 0 4) hI ⟨by decide, by decide⟩ r_A_0_4) (cwV 2 hts (goodV (wl_in_0 _ (List.mem_of_getElem? (i := 31) rfl)) (wl_in_0 _ (List.mem_of_getElem? (i := 32) rfl)) (wl_in_0 _ (List.mem_of_getElem? (i := 33) rfl)) (wl_in_0 _ (List.mem_of_getElem? (i := 8) rfl)) (wl_in_0 _ (List.mem_of_getElem? (i := 15) rfl))) rfl rfl rfl (by decide +kernel) ⟨Nat.le_of_ble_eq_true rfl, Nat.le_of_ble_eq_true rfl⟩) hK hDD hA0 hP hS 0 12 wm0 rfl rfl hl.1 (Nat.le_of_ble_eq_true rfl) dX12_must_14 (fun A6 H locs hw7 hP hS => ?_)
    obtain ⟨hI, hf8, hw7⟩ := hw7
    have r_A6_0_8 : (0 : Int) ≤ (A6 0 8) ∧ (A6 0 8) ≤ 5 := hI 0 8
    exact J17_5 _ _ _ _ hI (fr.trans (fr.rf) hf8 rfl rfl) hP hS (lv_sub hl [0, 1] rfl)

def ws_mb_X12_must_ : List Cond := .code yX12_must_ cX12_must_ 3 none :: WX
set_option maxHeartbeats 4000000 in
set_option maxRecDepth 100000 in
theorem mb_X12_must_ (l : Launch) (dC : Nat → ClassId) (dI : Nat → Nat → Nat) (cB cI cJ cZ cQ : ClassId) (q : Nat → Nat) (A : St) (x1 : Int) (hI : IM A) (hx1 : (-9223372036854775808 : Int) ≤ x1 ∧ x1 ≤ 9223372036854775807) (hcCB : CB A) : XMv l yX12_must_ ws_mb_X12_must_ ({ frames := 2, cells := 0, slots := 0, locals := 47 } : Room) (dC, dI) (tyA cB cI cJ cZ cQ) (WM cI cJ cZ q) A [.ref (q 0), .long (jI x1)] (fun u => IM u ∧ fr [] [3, 4, 5, 6, 7, 8, 9] A u ∧ CB u ∧ (A 0 4 ≤ u 0 4)) := by
  refine x_metv (cc := cX12_must_) (maxL := 3) WM_adr (by decide +kernel) rfl (Nat.le_of_ble_eq_true rfl) (fun p e s m below meth c Q AS ls hx hb hml hown hts hK hDD hA0 hP hS hl RET => ?_)
  have hown : s.vm.findClass RX12 = some m.cls := hown
  have hl : lv_has ls 3 [(0, .ref (q 0)), (1, .long (jI x1))] := hl
  have hiX12 : ∀ w ∈ u_ws RX12 TX12 85, w ∈ ws_mb_X12_must_ := fun w h => List.mem_cons_of_mem _ (wx_lay w h)
  obtain ⟨H, hHe⟩ : ∃ H : Heap, H = s.heap := ⟨_, rfl⟩
  rw [← hHe] at hP
  have hS : va_S AS s.heap H [] := by rw [hHe]; exact hS
  suffices hgo : ∀ locs : List Loc, va_S AS s.heap H locs → W p l e (headSpec ws_mb_X12_must_ ({ frames := 2, cells := 0, slots := 0, locals := 47 } : Room)).room s m [.ref (q 0), .long (jI x1)].toArray below meth c H locs 0 0 Q (F0 m 0 ls []) by
    have := hgo [] hS
    rw [hHe] at this
    exact this
  clear hS hHe
  intro locs hS
  have hle := CB.le hcCB
  refine lv_aload_n hx hb dX12_must__0 rfl (lv_at hl 0 rfl) ?_
  refine va_get (D := (dC, dI)) (ci := 12) (v := .int (iI (A 0 8))) (C := RX12) (T := TX12) (N := 85) hx hb hts hiX12 hown hK hP 0 wm0 rfl 8 (by decide) (hts _ (List.mem_cons_of_mem _ (wl_in_0 _ (List.mem_of_getElem? (i := 16) rfl)))) (fun _ h9 => h9) rfl dX12_must__1 ?_
  have r_A_0_8 : (0 : Int) ≤ (A 0 8) ∧ (A 0 8) ≤ 5 := hI 0 8
  refine lv_if_le (tgt := 8) hx hb dX12_must__4 (by decide) (fun c1 => ?_) (fun c1 => ?_)
  · have c1 : (A 0 8) ≤ 0 := (i_le0 (rb r_A_0_8 (by decide) (by decide))).mp c1
    refine lv_aload_n hx hb dX12_must__8 rfl (lv_at hl 0 rfl) ?_
    refine lv_lload_n hx hb dX12_must__9 rfl (lv_at hl 1 rfl) ?_
    have r_A_0_3 : (0 : Int) ≤ (A 0 3) ∧ (A 0 3) ≤ 3 := hI 0 3
    have r_A_0_7 : (-9223372036854775808 : Int) ≤ (A 0 7) ∧ (A 0 7) ≤ 9223372036854775807 := hI 0 7
    refine x_calli (As := [.long (jI x1)]) (rest := []) ⟨hx, hb, hml, hown, hts⟩ (mb_X12_isWord l dC dI cB cI cJ cZ cQ q _ x1 hI hx1) (cwV 1 hts (goodV (wl_in_1 _ (List.mem_of_getElem? (i := 59) rfl)) (wl_in_2 _ (List.mem_of_getElem? (i := 0) rfl)) (wl_in_2 _ (List.mem_of_getElem? (i := 1) rfl)) (wl_in_0 _ (List.mem_of_getElem? (i := 8) rfl)) (wl_in_0 _ (List.mem_of_getElem? (i := 35) rfl))) rfl rfl rfl (by decide +kernel) ⟨Nat.le_of_ble_eq_true rfl, Nat.le_of_ble_eq_true rfl⟩) hK hDD hA0 hP hS 0 12 wm0 rfl rfl hl.1 (Nat.le_of_ble_eq_true rfl) dX12_must__10 (fun z2 A3 H locs hw4 hP hS => ?_)
    obtain ⟨rfl, hw4⟩ := hw4
    have rz2 : 0 ≤ z2 ∧ z2 ≤ 1 := hw4.1
    have J25_6 : ∀ (A11 : St) (H : Heap) (locs : List Loc) (ls : Array Slot), IM A11 → fr [] [8, 9] A A11 → va_P (dC, dI) vwCl (WM cI cJ cZ q A11) H → va_S AS s.heap H locs → lv_has ls 3 [(0, .ref (q 0)), (1, .long (jI x1))] → W p l e (headSpec ws_mb_X12_must_ ({ frames := 2, cells := 0, slots := 0, locals := 47 } : Room)).room s m [.ref (q 0), .long (jI x1)].toArray below meth c H locs 0 0 Q (F0 m 25 ls []) := by
      intro A11 H locs ls hI hj10 hP hS hl
      refine lv_aload_n hx hb dX12_must__25 rfl (lv_at hl 0 rfl) ?_
      refine va_get (D := (dC, dI)) (ci := 12) (v := .int (iI (A11 0 8))) (C := RX12) (T := TX12) (N := 85) hx hb hts hiX12 hown hK hP 0 wm0 rfl 8 (by decide) (hts _ (List.mem_cons_of_mem _ (wl_in_0 _ (List.mem_of_getElem? (i := 16) rfl)))) (fun _ h9 => h9) rfl dX12_must__26 ?_
      have r_A11_0_8 : (0 : Int) ≤ (A11 0 8) ∧ (A11 0 8) ≤ 5 := hI 0 8
      refine lv_if_ne (tgt := 36) hx hb dX12_must__29 (by decide) (fun c12 => ?_) (fun c12 => ?_)
      · have c12 : ¬ (A11 0 8) = 0 := mt (i_eq0 (rb r_A11_0_8 (by decide) (by decide))).mpr c12
        have e_A11_4 : A11 0 4 = (A 0 4) := (hj10.2 4 rfl)
        have r_A_0_4 : (0 : Int) ≤ (A 0 4) ∧ (A 0 4) ≤ 1600 := by rw [← e_A11_4]; exact hI 0 4
        exact RET _ _ _ _ _ ⟨hI, fr.trans (fr.rf) hj10 rfl rfl, (CB.fr hcCB hj10 rfl rfl), by omega⟩ hP hS dX12_must__36
      · have c12 : (A11 0 8) = 0 := (i_eq0 (rb r_A11_0_8 (by decide) (by decide))).mp c12
        refine lv_aload_n hx hb dX12_must__32 rfl (lv_at hl 0 rfl) ?_
        have e_A11_4 : A11 0 4 = (A 0 4) := (hj10.2 4 rfl)
        have r_A_0_4 : (0 : Int) ≤ (A 0 4) ∧ (A 0 4) ≤ 1600 := by rw [← e_A11_4]; exact hI 0 4
        have e_A11_5 : A11 0 5 = (A 0 5) := (hj10.2 5 rfl)
        have r_A_0_5 : (0 : Int) ≤ (A 0 5) ∧ (A 0 5) ≤ 1600 := by rw [← e_A11_5]; exact hI 0 5
        refine x_callv (As := []) (rest := []) ⟨hx, hb, hml, hown, hts⟩ (mb_X12_ahead l dC dI cB cI cJ cZ cQ q _ hI) (cwV 0 hts (goodV (wl_in_0 _ (List.mem_of_getElem? (i := 40) rfl)) (wl_in_0 _ (List.mem_of_getElem? (i := 41) rfl)) (wl_in_0 _ (List.mem_of_getElem? (i := 42) rfl)) (wl_in_0 _ (List.mem_of_getElem? (i := 8) rfl)) (wl_in_0 _ (List.mem_of_getElem? (i := 20) rfl))) rfl rfl rfl (by decide +kernel) ⟨Nat.le_of_ble_eq_true rfl, Nat.le_of_ble_eq_true rfl⟩) hK hDD hA0 hP hS 0 12 wm0 rfl rfl hl.1 (Nat.le_of_ble_eq_true rfl) dX12_must__33 (fun A13 H locs hw14 hP hS => ?_)
        obtain ⟨hI, hf15, hw14⟩ := hw14
        have r_A13_0_3 : (0 : Int) ≤ (A13 0 3) ∧ (A13 0 3) ≤ 3 := hI 0 3
        have r_A13_0_4 : (0 : Int) ≤ (A13 0 4) ∧ (A13 0 4) ≤ 1600 := hI 0 4
        have r_A13_0_5 : (0 : Int) ≤ (A13 0 5) ∧ (A13 0 5) ≤ 1600 := hI 0 5
        have r_A13_0_8 : (0 : Int) ≤ (A13 0 8) ∧ (A13 0 8) ≤ 5 := hI 0 8
        have hv16 := CB.le (CB.fr hcCB hj10 rfl rfl)
        have hc17 := CB.ahead (CB.fr hcCB hj10 rfl rfl) (hf15.2 46 rfl) hw14.1 hw14.2.1 hw14.2.2.1
        exact RET _ _ _ _ _ ⟨hI, fr.trans (fr.trans (fr.rf) hj10 rfl rfl) hf15 rfl rfl, hc17, by omega⟩ hP hS dX12_must__36
    refine lv_if_ne (tgt := 25) hx hb dX12_must__13 (by decide) (fun c5 => ?_) (fun c5 => ?_)
    · have c5 : ¬ z2 = 0 := mt (i_eq0 (rb rz2 (by decide) (by decide))).mpr c5
      exact J25_6 _ _ _ _ hI (fr.rf) hP hS (lv_sub hl [0, 1] rfl)
    · have c5 : z2 = 0 := (i_eq0 (rb rz2 (by decide) (by decide))).mp c5
      refine lv_aload_n hx hb dX12_must__16 rfl (lv_at hl 0 rfl) ?_
      refine lv_iconst (v := iI 1) hx hb dX12_must__17 (by decide +kernel) ?_
      refine lv_aload_n hx hb dX12_must__18 rfl (lv_at hl 0 rfl) ?_
      refine va_get (D := (dC, dI)) (ci := 12) (v := .int (iI (A 0 4))) (C := RX12) (T := TX12) (N := 85) hx hb hts hiX12 hown hK hP 0 wm0 rfl 4 (by decide) (hts _ (List.mem_cons_of_mem _ (wl_in_0 _ (List.mem_of_getElem? (i := 23) rfl)))) (fun _ h9 => h9) rfl dX12_must__19 ?_
      have r_A_0_4 : (0 : Int) ≤ (A 0 4) ∧ (A 0 4) ≤ 1600 := hI 0 4
      refine x_callv (As := [.int (iI 1), .int (iI (A 0 4))]) (rest := []) ⟨hx, hb, hml, hown, hts⟩ (mc_X12_blame l dC dI cB cI cJ cZ cQ q _ 1 (A 0 4) hI ⟨by decide, by decide⟩ r_A_0_4) (cwV 2 hts (goodV (wl_in_0 _ (List.mem_of_getElem? (i := 31) rfl)) (wl_in_0 _ (List.mem_of_getElem? (i := 32) rfl)) (wl_in_0 _ (List.mem_of_getElem? (i := 33) rfl)) (wl_in_0 _ (List.mem_of_getElem? (i := 8) rfl)) (wl_in_0 _ (List.mem_of_getElem? (i := 15) rfl))) rfl rfl rfl (by decide +kernel) ⟨Nat.le_of_ble_eq_true rfl, Nat.le_of_ble_eq_true rfl⟩) hK hDD hA0 hP hS 0 12 wm0 rfl rfl hl.1 (Nat.le_of_ble_eq_true rfl) dX12_must__22 (fun A7 H locs hw8 hP hS => ?_)
      obtain ⟨hI, hf9, hw8⟩ := hw8
      have r_A7_0_8 : (0 : Int) ≤ (A7 0 8) ∧ (A7 0 8) ≤ 5 := hI 0 8
      exact J25_6 _ _ _ _ hI (fr.trans (fr.rf) hf9 rfl rfl) hP hS (lv_sub hl [0, 1] rfl)
  · have c1 : ¬ (A 0 8) ≤ 0 := mt (i_le0 (rb r_A_0_8 (by decide) (by decide))).mpr c1
    have r_A_0_4 : (0 : Int) ≤ (A 0 4) ∧ (A 0 4) ≤ 1600 := hI 0 4
    exact RET _ _ _ _ _ ⟨hI, fr.rf, hcCB, by omega⟩ hP hS dX12_must__7

def ws_mb_X12_counts : List Cond := .code yX12_counts cX12_counts 2 (some .boolean) :: WX
set_option maxHeartbeats 4000000 in
set_option maxRecDepth 100000 in
theorem mb_X12_counts (l : Launch) (dC : Nat → ClassId) (dI : Nat → Nat → Nat) (cB cI cJ cZ cQ : ClassId) (q : Nat → Nat) (A : St) (x1 : Int) (hI : IM A) (hx1 : (0 : Int) ≤ x1 ∧ x1 ≤ 1) (hcCB : CB A) : XMi l yX12_counts ws_mb_X12_counts ({ frames := 2, cells := 0, slots := 0, locals := 47 } : Room) (dC, dI) (tyA cB cI cJ cZ cQ) (WM cI cJ cZ q) A [.ref (q 0), .int (iI x1)] (fun z u => IM u ∧ fr [] [3, 4, 5, 6, 7, 8, 9] A u ∧ CB u ∧ ((0 ≤ z ∧ z ≤ 1) ∧ ((z = 1 → x1 = 0 ∧ u 0 8 = 0 ∧ A 0 5 ≤ u 0 4) ∧ (z = 0 → 1 ≤ u 0 8) ∧ A 0 4 ≤ u 0 4))) := by
  refine x_metz (cc := cX12_counts) (maxL := 2) WM_adr (by decide +kernel) rfl (Nat.le_of_ble_eq_true rfl) (fun z u h => h.2.2.2.1) (fun p e s m below meth c Q AS ls hx hb hml hown hts hK hDD hA0 hP hS hl RET => ?_)
  have hown : s.vm.findClass RX12 = some m.cls := hown
  have hl : lv_has ls 2 [(0, .ref (q 0)), (1, .int (iI x1))] := hl
  have hiX12 : ∀ w ∈ u_ws RX12 TX12 85, w ∈ ws_mb_X12_counts := fun w h => List.mem_cons_of_mem _ (wx_lay w h)
  obtain ⟨H, hHe⟩ : ∃ H : Heap, H = s.heap := ⟨_, rfl⟩
  rw [← hHe] at hP
  have hS : va_S AS s.heap H [] := by rw [hHe]; exact hS
  suffices hgo : ∀ locs : List Loc, va_S AS s.heap H locs → W p l e (headSpec ws_mb_X12_counts ({ frames := 2, cells := 0, slots := 0, locals := 47 } : Room)).room s m [.ref (q 0), .int (iI x1)].toArray below meth c H locs 0 0 Q (F0 m 0 ls []) by
    have := hgo [] hS
    rw [hHe] at this
    exact this
  clear hS hHe
  intro locs hS
  have hle := CB.le hcCB
  refine lv_aload_n hx hb dX12_counts_0 rfl (lv_at hl 0 rfl) ?_
  refine va_get (D := (dC, dI)) (ci := 12) (v := .int (iI (A 0 8))) (C := RX12) (T := TX12) (N := 85) hx hb hts hiX12 hown hK hP 0 wm0 rfl 8 (by decide) (hts _ (List.mem_cons_of_mem _ (wl_in_0 _ (List.mem_of_getElem? (i := 16) rfl)))) (fun _ h9 => h9) rfl dX12_counts_1 ?_
  have r_A_0_8 : (0 : Int) ≤ (A 0 8) ∧ (A 0 8) ≤ 5 := hI 0 8
  have J20_2 : ∀ (A8 : St) (H : Heap) (locs : List Loc) (ls : Array Slot), ((A8 0 8) = 0 → x1 = 0) → IM A8 → fr [] [8, 9] A A8 → va_P (dC, dI) vwCl (WM cI cJ cZ q A8) H → va_S AS s.heap H locs → lv_has ls 2 [(0, .ref (q 0)), (1, .int (iI x1))] → W p l e (headSpec ws_mb_X12_counts ({ frames := 2, cells := 0, slots := 0, locals := 47 } : Room)).room s m [.ref (q 0), .int (iI x1)].toArray below meth c H locs 0 0 Q (F0 m 20 ls []) := by
    intro A8 H locs ls f9 hI hj7 hP hS hl
    refine lv_aload_n hx hb dX12_counts_20 rfl (lv_at hl 0 rfl) ?_
    refine va_get (D := (dC, dI)) (ci := 12) (v := .int (iI (A8 0 8))) (C := RX12) (T := TX12) (N := 85) hx hb hts hiX12 hown hK hP 0 wm0 rfl 8 (by decide) (hts _ (List.mem_cons_of_mem _ (wl_in_0 _ (List.mem_of_getElem? (i := 16) rfl)))) (fun _ h9 => h9) rfl dX12_counts_21 ?_
    have r_A8_0_8 : (0 : Int) ≤ (A8 0 8) ∧ (A8 0 8) ≤ 5 := hI 0 8
    have J31_11 : ∀ (A18 : St) (H : Heap) (locs : List Loc) (ls : Array Slot), (A 0 4 ≤ (A18 0 4)) → ((A18 0 8) = 0 → (x1 = 0 ∧ A 0 5 ≤ (A18 0 4))) → (CB A18) → IM A18 → fr [] [3, 4, 5, 6, 7, 8, 9] A8 A18 → va_P (dC, dI) vwCl (WM cI cJ cZ q A18) H → va_S AS s.heap H locs → lv_has ls 2 [(0, .ref (q 0)), (1, .int (iI x1))] → W p l e (headSpec ws_mb_X12_counts ({ frames := 2, cells := 0, slots := 0, locals := 47 } : Room)).room s m [.ref (q 0), .int (iI x1)].toArray below meth c H locs 0 0 Q (F0 m 31 ls []) := by
      intro A18 H locs ls f19 f20 hc21 hI hj17 hP hS hl
      refine lv_aload_n hx hb dX12_counts_31 rfl (lv_at hl 0 rfl) ?_
      refine va_get (D := (dC, dI)) (ci := 12) (v := .int (iI (A18 0 8))) (C := RX12) (T := TX12) (N := 85) hx hb hts hiX12 hown hK hP 0 wm0 rfl 8 (by decide) (hts _ (List.mem_cons_of_mem _ (wl_in_0 _ (List.mem_of_getElem? (i := 16) rfl)))) (fun _ h9 => h9) rfl dX12_counts_32 ?_
      have r_A18_0_8 : (0 : Int) ≤ (A18 0 8) ∧ (A18 0 8) ≤ 5 := hI 0 8
      refine lv_if_ne (tgt := 42) hx hb dX12_counts_35 (by decide) (fun c22 => ?_) (fun c22 => ?_)
      · have c22 : ¬ (A18 0 8) = 0 := mt (i_eq0 (rb r_A18_0_8 (by decide) (by decide))).mpr c22
        refine lv_iconst (v := iI 0) hx hb dX12_counts_42 (by decide +kernel) ?_
        have r_A18_0_4 : (0 : Int) ≤ (A18 0 4) ∧ (A18 0 4) ≤ 1600 := hI 0 4
        exact RET 0 _ _ _ _ _ ⟨hI, fr.trans (fr.trans (fr.rf) hj7 rfl rfl) hj17 rfl rfl, hc21, by omega⟩ hP hS dX12_counts_43
      · have c22 : (A18 0 8) = 0 := (i_eq0 (rb r_A18_0_8 (by decide) (by decide))).mp c22
        refine lv_iconst (v := iI 1) hx hb dX12_counts_38 (by decide +kernel) ?_
        refine lv_goto (tgt := 43) hx hb dX12_counts_39 (by decide) ?_
        have r_A18_0_4 : (0 : Int) ≤ (A18 0 4) ∧ (A18 0 4) ≤ 1600 := hI 0 4
        exact RET 1 _ _ _ _ _ ⟨hI, fr.trans (fr.trans (fr.rf) hj7 rfl rfl) hj17 rfl rfl, hc21, by omega⟩ hP hS dX12_counts_43
    refine lv_if_ne (tgt := 31) hx hb dX12_counts_24 (by decide) (fun c10 => ?_) (fun c10 => ?_)
    · have c10 : ¬ (A8 0 8) = 0 := mt (i_eq0 (rb r_A8_0_8 (by decide) (by decide))).mpr c10
      have e_A8_4 : A8 0 4 = (A 0 4) := (hj7.2 4 rfl)
      have r_A_0_4 : (0 : Int) ≤ (A 0 4) ∧ (A 0 4) ≤ 1600 := by rw [← e_A8_4]; exact hI 0 4
      exact J31_11 _ _ _ _ (by omega) (by omega) (CB.fr hcCB hj7 rfl rfl) hI (fr.rf) hP hS (lv_sub hl [0, 1] rfl)
    · have c10 : (A8 0 8) = 0 := (i_eq0 (rb r_A8_0_8 (by decide) (by decide))).mp c10
      refine lv_aload_n hx hb dX12_counts_27 rfl (lv_at hl 0 rfl) ?_
      have e_A8_4 : A8 0 4 = (A 0 4) := (hj7.2 4 rfl)
      have r_A_0_4 : (0 : Int) ≤ (A 0 4) ∧ (A 0 4) ≤ 1600 := by rw [← e_A8_4]; exact hI 0 4
      have e_A8_5 : A8 0 5 = (A 0 5) := (hj7.2 5 rfl)
      have r_A_0_5 : (0 : Int) ≤ (A 0 5) ∧ (A 0 5) ≤ 1600 := by rw [← e_A8_5]; exact hI 0 5
      refine x_callv (As := []) (rest := []) ⟨hx, hb, hml, hown, hts⟩ (mb_X12_ahead l dC dI cB cI cJ cZ cQ q _ hI) (cwV 0 hts (goodV (wl_in_0 _ (List.mem_of_getElem? (i := 40) rfl)) (wl_in_0 _ (List.mem_of_getElem? (i := 41) rfl)) (wl_in_0 _ (List.mem_of_getElem? (i := 42) rfl)) (wl_in_0 _ (List.mem_of_getElem? (i := 8) rfl)) (wl_in_0 _ (List.mem_of_getElem? (i := 20) rfl))) rfl rfl rfl (by decide +kernel) ⟨Nat.le_of_ble_eq_true rfl, Nat.le_of_ble_eq_true rfl⟩) hK hDD hA0 hP hS 0 12 wm0 rfl rfl hl.1 (Nat.le_of_ble_eq_true rfl) dX12_counts_28 (fun A12 H locs hw13 hP hS => ?_)
      obtain ⟨hI, hf14, hw13⟩ := hw13
      have r_A12_0_3 : (0 : Int) ≤ (A12 0 3) ∧ (A12 0 3) ≤ 3 := hI 0 3
      have r_A12_0_4 : (0 : Int) ≤ (A12 0 4) ∧ (A12 0 4) ≤ 1600 := hI 0 4
      have r_A12_0_5 : (0 : Int) ≤ (A12 0 5) ∧ (A12 0 5) ≤ 1600 := hI 0 5
      have r_A12_0_8 : (0 : Int) ≤ (A12 0 8) ∧ (A12 0 8) ≤ 5 := hI 0 8
      have hv15 := CB.le (CB.fr hcCB hj7 rfl rfl)
      have hc16 := CB.ahead (CB.fr hcCB hj7 rfl rfl) (hf14.2 46 rfl) hw13.1 hw13.2.1 hw13.2.2.1
      exact J31_11 _ _ _ _ (by omega) (by omega) hc16 hI (fr.trans (fr.rf) hf14 rfl rfl) hP hS (lv_sub hl [0, 1] rfl)
  refine lv_if_ne (tgt := 20) hx hb dX12_counts_4 (by decide) (fun c1 => ?_) (fun c1 => ?_)
  · have c1 : ¬ (A 0 8) = 0 := mt (i_eq0 (rb r_A_0_8 (by decide) (by decide))).mpr c1
    exact J20_2 _ _ _ _ (by omega) hI (fr.rf) hP hS (lv_sub hl [0, 1] rfl)
  · have c1 : (A 0 8) = 0 := (i_eq0 (rb r_A_0_8 (by decide) (by decide))).mp c1
    refine lv_iload_n hx hb dX12_counts_7 rfl (lv_at hl 1 rfl) ?_
    refine lv_if_eq (tgt := 20) hx hb dX12_counts_8 (by decide) (fun c3 => ?_) (fun c3 => ?_)
    · have c3 : x1 = 0 := (i_eq0 (rb hx1 (by decide) (by decide))).mp c3
      exact J20_2 _ _ _ _ (by omega) hI (fr.rf) hP hS (lv_sub hl [0, 1] rfl)
    · have c3 : ¬ x1 = 0 := mt (i_eq0 (rb hx1 (by decide) (by decide))).mpr c3
      refine lv_aload_n hx hb dX12_counts_11 rfl (lv_at hl 0 rfl) ?_
      refine lv_iconst (v := iI 5) hx hb dX12_counts_12 (by decide +kernel) ?_
      refine lv_aload_n hx hb dX12_counts_13 rfl (lv_at hl 0 rfl) ?_
      refine va_get (D := (dC, dI)) (ci := 12) (v := .int (iI (A 0 4))) (C := RX12) (T := TX12) (N := 85) hx hb hts hiX12 hown hK hP 0 wm0 rfl 4 (by decide) (hts _ (List.mem_cons_of_mem _ (wl_in_0 _ (List.mem_of_getElem? (i := 23) rfl)))) (fun _ h9 => h9) rfl dX12_counts_14 ?_
      have r_A_0_4 : (0 : Int) ≤ (A 0 4) ∧ (A 0 4) ≤ 1600 := hI 0 4
      refine x_callv (As := [.int (iI 5), .int (iI (A 0 4))]) (rest := []) ⟨hx, hb, hml, hown, hts⟩ (mc_X12_blame l dC dI cB cI cJ cZ cQ q _ 5 (A 0 4) hI ⟨by decide, by decide⟩ r_A_0_4) (cwV 2 hts (goodV (wl_in_0 _ (List.mem_of_getElem? (i := 31) rfl)) (wl_in_0 _ (List.mem_of_getElem? (i := 32) rfl)) (wl_in_0 _ (List.mem_of_getElem? (i := 33) rfl)) (wl_in_0 _ (List.mem_of_getElem? (i := 8) rfl)) (wl_in_0 _ (List.mem_of_getElem? (i := 15) rfl))) rfl rfl rfl (by decide +kernel) ⟨Nat.le_of_ble_eq_true rfl, Nat.le_of_ble_eq_true rfl⟩) hK hDD hA0 hP hS 0 12 wm0 rfl rfl hl.1 (Nat.le_of_ble_eq_true rfl) dX12_counts_17 (fun A4 H locs hw5 hP hS => ?_)
      obtain ⟨hI, hf6, hw5⟩ := hw5
      have r_A4_0_8 : (0 : Int) ≤ (A4 0 8) ∧ (A4 0 8) ≤ 5 := hI 0 8
      exact J20_2 _ _ _ _ (by omega) hI (fr.trans (fr.rf) hf6 rfl rfl) hP hS (lv_sub hl [0, 1] rfl)

def ws_mb_X12_number : List Cond := .code yX12_number cX12_number 4 (some .int) :: WX
set_option maxHeartbeats 4000000 in
set_option maxRecDepth 100000 in
theorem mb_X12_number (l : Launch) (dC : Nat → ClassId) (dI : Nat → Nat → Nat) (cB cI cJ cZ cQ : ClassId) (q : Nat → Nat) (A : St) (x1 x2 : Int) (hI : IM A) (hx1 : (-2147483648 : Int) ≤ x1 ∧ x1 ≤ 2147483647) (hx2 : (-2147483648 : Int) ≤ x2 ∧ x2 ≤ 2147483647) (hcCB : CB A) : XMi l yX12_number ws_mb_X12_number ({ frames := 2, cells := 0, slots := 0, locals := 47 } : Room) (dC, dI) (tyA cB cI cJ cZ cQ) (WM cI cJ cZ q) A [.ref (q 0), .int (iI x1), .int (iI x2)] (fun z u => IM u ∧ fr [] [3, 4, 5, 6, 7, 8, 9] A u ∧ CB u ∧ ((-2147483648 ≤ z ∧ z ≤ 2147483647) ∧ A 0 4 ≤ u 0 4)) := by
  refine x_meti (cc := cX12_number) (maxL := 4) WM_adr (by decide +kernel) rfl (Nat.le_of_ble_eq_true rfl) (fun p e s m below meth c Q AS ls hx hb hml hown hts hK hDD hA0 hP hS hl RET => ?_)
  have hown : s.vm.findClass RX12 = some m.cls := hown
  have hl : lv_has ls 4 [(0, .ref (q 0)), (1, .int (iI x1)), (2, .int (iI x2))] := hl
  have hiX12 : ∀ w ∈ u_ws RX12 TX12 85, w ∈ ws_mb_X12_number := fun w h => List.mem_cons_of_mem _ (wx_lay w h)
  obtain ⟨H, hHe⟩ : ∃ H : Heap, H = s.heap := ⟨_, rfl⟩
  rw [← hHe] at hP
  have hS : va_S AS s.heap H [] := by rw [hHe]; exact hS
  suffices hgo : ∀ locs : List Loc, va_S AS s.heap H locs → W p l e (headSpec ws_mb_X12_number ({ frames := 2, cells := 0, slots := 0, locals := 47 } : Room)).room s m [.ref (q 0), .int (iI x1), .int (iI x2)].toArray below meth c H locs 0 0 Q (F0 m 0 ls []) by
    have := hgo [] hS
    rw [hHe] at this
    exact this
  clear hS hHe
  intro locs hS
  have hle := CB.le hcCB
  refine lv_aload_n hx hb dX12_number_0 rfl (lv_at hl 0 rfl) ?_
  refine va_get (D := (dC, dI)) (ci := 12) (v := .int (iI (A 0 8))) (C := RX12) (T := TX12) (N := 85) hx hb hts hiX12 hown hK hP 0 wm0 rfl 8 (by decide) (hts _ (List.mem_cons_of_mem _ (wl_in_0 _ (List.mem_of_getElem? (i := 16) rfl)))) (fun _ h9 => h9) rfl dX12_number_1 ?_
  have r_A_0_8 : (0 : Int) ≤ (A 0 8) ∧ (A 0 8) ≤ 5 := hI 0 8
  refine lv_if_le (tgt := 9) hx hb dX12_number_4 (by decide) (fun c1 => ?_) (fun c1 => ?_)
  · have c1 : (A 0 8) ≤ 0 := (i_le0 (rb r_A_0_8 (by decide) (by decide))).mp c1
    refine lv_aload_n hx hb dX12_number_9 rfl (lv_at hl 0 rfl) ?_
    refine va_get (D := (dC, dI)) (ci := 12) (v := .int (iI (A 0 3))) (C := RX12) (T := TX12) (N := 85) hx hb hts hiX12 hown hK hP 0 wm0 rfl 3 (by decide) (hts _ (List.mem_cons_of_mem _ (wl_in_0 _ (List.mem_of_getElem? (i := 24) rfl)))) (fun _ h9 => h9) rfl dX12_number_10 ?_
    have r_A_0_3 : (0 : Int) ≤ (A 0 3) ∧ (A 0 3) ≤ 3 := hI 0 3
    refine lv_iconst (v := iI 2) hx hb dX12_number_13 (by decide +kernel) ?_
    have J26_3 : ∀ (A8 : St) (H : Heap) (locs : List Loc) (ls : Array Slot), IM A8 → fr [] [8, 9] A A8 → va_P (dC, dI) vwCl (WM cI cJ cZ q A8) H → va_S AS s.heap H locs → lv_has ls 4 [(0, .ref (q 0)), (1, .int (iI x1)), (2, .int (iI x2))] → W p l e (headSpec ws_mb_X12_number ({ frames := 2, cells := 0, slots := 0, locals := 47 } : Room)).room s m [.ref (q 0), .int (iI x1), .int (iI x2)].toArray below meth c H locs 0 0 Q (F0 m 26 ls []) := by
      intro A8 H locs ls hI hj7 hP hS hl
      refine lv_aload_n hx hb dX12_number_26 rfl (lv_at hl 0 rfl) ?_
      refine va_get (D := (dC, dI)) (ci := 12) (v := .int (iI (A8 0 8))) (C := RX12) (T := TX12) (N := 85) hx hb hts hiX12 hown hK hP 0 wm0 rfl 8 (by decide) (hts _ (List.mem_cons_of_mem _ (wl_in_0 _ (List.mem_of_getElem? (i := 16) rfl)))) (fun _ h9 => h9) rfl dX12_number_27 ?_
      have r_A8_0_8 : (0 : Int) ≤ (A8 0 8) ∧ (A8 0 8) ≤ 5 := hI 0 8
      have J54_10 : ∀ (A19 : St) (H : Heap) (locs : List Loc) (ls : Array Slot), IM A19 → fr [] [8, 9] A8 A19 → va_P (dC, dI) vwCl (WM cI cJ cZ q A19) H → va_S AS s.heap H locs → lv_has ls 4 [(0, .ref (q 0)), (1, .int (iI x1)), (2, .int (iI x2))] → W p l e (headSpec ws_mb_X12_number ({ frames := 2, cells := 0, slots := 0, locals := 47 } : Room)).room s m [.ref (q 0), .int (iI x1), .int (iI x2)].toArray below meth c H locs 0 0 Q (F0 m 54 ls []) := by
        intro A19 H locs ls hI hj18 hP hS hl
        refine lv_aload_n hx hb dX12_number_54 rfl (lv_at hl 0 rfl) ?_
        have e_A8_6 : A8 0 6 = (A 0 6) := (hj7.2 6 rfl)
        have e_A19_6 : A19 0 6 = (A 0 6) := (hj18.2 6 rfl).trans e_A8_6
        refine va_get (D := (dC, dI)) (ci := 12) (v := .int (iI (A19 0 6))) (C := RX12) (T := TX12) (N := 85) hx hb hts hiX12 hown hK hP 0 wm0 rfl 6 (by decide) (hts _ (List.mem_cons_of_mem _ (wl_in_0 _ (List.mem_of_getElem? (i := 25) rfl)))) (fun _ h9 => h9) rfl dX12_number_55 ?_
        refine tp_i (y := iI (A 0 6)) (congrArg iI e_A19_6) ?_
        have r_A_0_6 : (-2147483648 : Int) ≤ (A 0 6) ∧ (A 0 6) ≤ 2147483647 := by rw [← e_A19_6]; exact hI 0 6
        refine lv_istore_n (lv' := [(3, .int (iI (A 0 6))), (0, .ref (q 0)), (1, .int (iI x1)), (2, .int (iI x2))]) hx hb dX12_number_58 rfl hl (by decide) rfl (fun ls hl => ?_)
        refine lv_aload_n hx hb dX12_number_59 rfl (lv_at hl 1 rfl) ?_
        refine va_get (D := (dC, dI)) (ci := 12) (v := .int (iI (A19 0 8))) (C := RX12) (T := TX12) (N := 85) hx hb hts hiX12 hown hK hP 0 wm0 rfl 8 (by decide) (hts _ (List.mem_cons_of_mem _ (wl_in_0 _ (List.mem_of_getElem? (i := 16) rfl)))) (fun _ h9 => h9) rfl dX12_number_60 ?_
        have r_A19_0_8 : (0 : Int) ≤ (A19 0 8) ∧ (A19 0 8) ≤ 5 := hI 0 8
        refine lv_if_ne (tgt := 70) hx hb dX12_number_63 (by decide) (fun c20 => ?_) (fun c20 => ?_)
        · have c20 : ¬ (A19 0 8) = 0 := mt (i_eq0 (rb r_A19_0_8 (by decide) (by decide))).mpr c20
          refine lv_iload_n hx hb dX12_number_70 rfl (lv_at hl 0 rfl) ?_
          have e_A8_4 : A8 0 4 = (A 0 4) := (hj7.2 4 rfl)
          have e_A19_4 : A19 0 4 = (A 0 4) := (hj18.2 4 rfl).trans e_A8_4
          have r_A_0_4 : (0 : Int) ≤ (A 0 4) ∧ (A 0 4) ≤ 1600 := by rw [← e_A19_4]; exact hI 0 4
          exact RET (A 0 6) _ _ _ _ _ ⟨hI, fr.trans (fr.trans (fr.rf) hj7 rfl rfl) hj18 rfl rfl, (CB.fr (CB.fr hcCB hj7 rfl rfl) hj18 rfl rfl), by omega⟩ hP hS dX12_number_71
        · have c20 : (A19 0 8) = 0 := (i_eq0 (rb r_A19_0_8 (by decide) (by decide))).mp c20
          refine lv_aload_n hx hb dX12_number_66 rfl (lv_at hl 1 rfl) ?_
          have e_A8_4 : A8 0 4 = (A 0 4) := (hj7.2 4 rfl)
          have e_A19_4 : A19 0 4 = (A 0 4) := (hj18.2 4 rfl).trans e_A8_4
          have r_A_0_4 : (0 : Int) ≤ (A 0 4) ∧ (A 0 4) ≤ 1600 := by rw [← e_A19_4]; exact hI 0 4
          have e_A8_5 : A8 0 5 = (A 0 5) := (hj7.2 5 rfl)
          have e_A19_5 : A19 0 5 = (A 0 5) := (hj18.2 5 rfl).trans e_A8_5
          have r_A_0_5 : (0 : Int) ≤ (A 0 5) ∧ (A 0 5) ≤ 1600 := by rw [← e_A19_5]; exact hI 0 5
          refine x_callv (As := []) (rest := []) ⟨hx, hb, hml, hown, hts⟩ (mb_X12_ahead l dC dI cB cI cJ cZ cQ q _ hI) (cwV 0 hts (goodV (wl_in_0 _ (List.mem_of_getElem? (i := 40) rfl)) (wl_in_0 _ (List.mem_of_getElem? (i := 41) rfl)) (wl_in_0 _ (List.mem_of_getElem? (i := 42) rfl)) (wl_in_0 _ (List.mem_of_getElem? (i := 8) rfl)) (wl_in_0 _ (List.mem_of_getElem? (i := 20) rfl))) rfl rfl rfl (by decide +kernel) ⟨Nat.le_of_ble_eq_true rfl, Nat.le_of_ble_eq_true rfl⟩) hK hDD hA0 hP hS 0 12 wm0 rfl rfl hl.1 (Nat.le_of_ble_eq_true rfl) dX12_number_67 (fun A21 H locs hw22 hP hS => ?_)
          obtain ⟨hI, hf23, hw22⟩ := hw22
          have r_A21_0_3 : (0 : Int) ≤ (A21 0 3) ∧ (A21 0 3) ≤ 3 := hI 0 3
          have r_A21_0_4 : (0 : Int) ≤ (A21 0 4) ∧ (A21 0 4) ≤ 1600 := hI 0 4
          have r_A21_0_5 : (0 : Int) ≤ (A21 0 5) ∧ (A21 0 5) ≤ 1600 := hI 0 5
          have r_A21_0_8 : (0 : Int) ≤ (A21 0 8) ∧ (A21 0 8) ≤ 5 := hI 0 8
          have hv24 := CB.le (CB.fr (CB.fr hcCB hj7 rfl rfl) hj18 rfl rfl)
          have hc25 := CB.ahead (CB.fr (CB.fr hcCB hj7 rfl rfl) hj18 rfl rfl) (hf23.2 46 rfl) hw22.1 hw22.2.1 hw22.2.2.1
          refine lv_iload_n hx hb dX12_number_70 rfl (lv_at hl 0 rfl) ?_
          exact RET (A 0 6) _ _ _ _ _ ⟨hI, fr.trans (fr.trans (fr.trans (fr.rf) hj7 rfl rfl) hj18 rfl rfl) hf23 rfl rfl, hc25, by omega⟩ hP hS dX12_number_71
      refine lv_if_ne (tgt := 54) hx hb dX12_number_30 (by decide) (fun c9 => ?_) (fun c9 => ?_)
      · have c9 : ¬ (A8 0 8) = 0 := mt (i_eq0 (rb r_A8_0_8 (by decide) (by decide))).mpr c9
        exact J54_10 _ _ _ _ hI (fr.rf) hP hS (lv_sub hl [0, 1, 2] rfl)
      · have c9 : (A8 0 8) = 0 := (i_eq0 (rb r_A8_0_8 (by decide) (by decide))).mp c9
        refine lv_aload_n hx hb dX12_number_33 rfl (lv_at hl 0 rfl) ?_
        have e_A8_6 : A8 0 6 = (A 0 6) := (hj7.2 6 rfl)
        refine va_get (D := (dC, dI)) (ci := 12) (v := .int (iI (A8 0 6))) (C := RX12) (T := TX12) (N := 85) hx hb hts hiX12 hown hK hP 0 wm0 rfl 6 (by decide) (hts _ (List.mem_cons_of_mem _ (wl_in_0 _ (List.mem_of_getElem? (i := 25) rfl)))) (fun _ h9 => h9) rfl dX12_number_34 ?_
        refine tp_i (y := iI (A 0 6)) (congrArg iI e_A8_6) ?_
        have r_A_0_6 : (-2147483648 : Int) ≤ (A 0 6) ∧ (A 0 6) ≤ 2147483647 := by rw [← e_A8_6]; exact hI 0 6
        refine lv_iload_n hx hb dX12_number_37 rfl (lv_at hl 1 rfl) ?_
        refine lv_iload_n hx hb dX12_number_38 rfl (lv_at hl 2 rfl) ?_
        refine x_callSi (As := [.int (iI (A 0 6)), .int (iI x1), .int (iI x2)]) (rest := []) ⟨hx, hb, hml, hown, hts⟩ (mc_X12_is l dC dI cB cI cJ cZ cQ q _ (A 0 6) x1 x2 hI r_A_0_6 hx1 hx2) (va_cwS 3 hts (goodS (wl_in_1 _ (List.mem_of_getElem? (i := 27) rfl)) (wl_in_1 _ (List.mem_of_getElem? (i := 28) rfl)) (wl_in_0 _ (List.mem_of_getElem? (i := 8) rfl)) (wl_in_0 _ (List.mem_of_getElem? (i := 0) rfl))) rfl rfl rfl (by decide +kernel) ⟨Nat.le_of_ble_eq_true rfl, Nat.le_of_ble_eq_true rfl⟩) hK hDD hA0 hP hS rfl hl.1 (Nat.le_of_ble_eq_true rfl) dX12_number_39 (fun z11 A12 H locs hw13 hP hS => ?_)
        obtain ⟨rfl, hw13⟩ := hw13
        have rz11 : 0 ≤ z11 ∧ z11 ≤ 1 := hw13.1
        refine lv_if_ne (tgt := 54) hx hb dX12_number_42 (by decide) (fun c14 => ?_) (fun c14 => ?_)
        · have c14 : ¬ z11 = 0 := mt (i_eq0 (rb rz11 (by decide) (by decide))).mpr c14
          have hw13b := hw13.2.mp (by omega)
          clear hw13
          exact J54_10 _ _ _ _ hI (fr.rf) hP hS (lv_sub hl [0, 1, 2] rfl)
        · have c14 : z11 = 0 := (i_eq0 (rb rz11 (by decide) (by decide))).mp c14
          have hw13b := mt hw13.2.mpr (by omega)
          clear hw13
          refine lv_aload_n hx hb dX12_number_45 rfl (lv_at hl 0 rfl) ?_
          refine lv_iconst (v := iI 4) hx hb dX12_number_46 (by decide +kernel) ?_
          refine lv_aload_n hx hb dX12_number_47 rfl (lv_at hl 0 rfl) ?_
          have e_A8_4 : A8 0 4 = (A 0 4) := (hj7.2 4 rfl)
          refine va_get (D := (dC, dI)) (ci := 12) (v := .int (iI (A8 0 4))) (C := RX12) (T := TX12) (N := 85) hx hb hts hiX12 hown hK hP 0 wm0 rfl 4 (by decide) (hts _ (List.mem_cons_of_mem _ (wl_in_0 _ (List.mem_of_getElem? (i := 23) rfl)))) (fun _ h9 => h9) rfl dX12_number_48 ?_
          refine tp_i (y := iI (A 0 4)) (congrArg iI e_A8_4) ?_
          have r_A_0_4 : (0 : Int) ≤ (A 0 4) ∧ (A 0 4) ≤ 1600 := by rw [← e_A8_4]; exact hI 0 4
          refine x_callv (As := [.int (iI 4), .int (iI (A 0 4))]) (rest := []) ⟨hx, hb, hml, hown, hts⟩ (mc_X12_blame l dC dI cB cI cJ cZ cQ q _ 4 (A 0 4) hI ⟨by decide, by decide⟩ r_A_0_4) (cwV 2 hts (goodV (wl_in_0 _ (List.mem_of_getElem? (i := 31) rfl)) (wl_in_0 _ (List.mem_of_getElem? (i := 32) rfl)) (wl_in_0 _ (List.mem_of_getElem? (i := 33) rfl)) (wl_in_0 _ (List.mem_of_getElem? (i := 8) rfl)) (wl_in_0 _ (List.mem_of_getElem? (i := 15) rfl))) rfl rfl rfl (by decide +kernel) ⟨Nat.le_of_ble_eq_true rfl, Nat.le_of_ble_eq_true rfl⟩) hK hDD hA0 hP hS 0 12 wm0 rfl rfl hl.1 (Nat.le_of_ble_eq_true rfl) dX12_number_51 (fun A15 H locs hw16 hP hS => ?_)
          obtain ⟨hI, hf17, hw16⟩ := hw16
          have r_A15_0_8 : (0 : Int) ≤ (A15 0 8) ∧ (A15 0 8) ≤ 5 := hI 0 8
          exact J54_10 _ _ _ _ hI (fr.trans (fr.rf) hf17 rfl rfl) hP hS (lv_sub hl [0, 1, 2] rfl)
    refine lv_icmp_eq (tgt := 26) hx hb dX12_number_14 (by decide) (fun c2 => ?_) (fun c2 => ?_)
    · have c2 : (A 0 3) = 2 := (i_eq (rb r_A_0_3 (by decide) (by decide)) ⟨by decide, by decide⟩).mp c2
      exact J26_3 _ _ _ _ hI (fr.rf) hP hS (lv_sub hl [0, 1, 2] rfl)
    · have c2 : ¬ (A 0 3) = 2 := mt (i_eq (rb r_A_0_3 (by decide) (by decide)) ⟨by decide, by decide⟩).mpr c2
      refine lv_aload_n hx hb dX12_number_17 rfl (lv_at hl 0 rfl) ?_
      refine lv_iconst (v := iI 1) hx hb dX12_number_18 (by decide +kernel) ?_
      refine lv_aload_n hx hb dX12_number_19 rfl (lv_at hl 0 rfl) ?_
      refine va_get (D := (dC, dI)) (ci := 12) (v := .int (iI (A 0 4))) (C := RX12) (T := TX12) (N := 85) hx hb hts hiX12 hown hK hP 0 wm0 rfl 4 (by decide) (hts _ (List.mem_cons_of_mem _ (wl_in_0 _ (List.mem_of_getElem? (i := 23) rfl)))) (fun _ h9 => h9) rfl dX12_number_20 ?_
      have r_A_0_4 : (0 : Int) ≤ (A 0 4) ∧ (A 0 4) ≤ 1600 := hI 0 4
      refine x_callv (As := [.int (iI 1), .int (iI (A 0 4))]) (rest := []) ⟨hx, hb, hml, hown, hts⟩ (mc_X12_blame l dC dI cB cI cJ cZ cQ q _ 1 (A 0 4) hI ⟨by decide, by decide⟩ r_A_0_4) (cwV 2 hts (goodV (wl_in_0 _ (List.mem_of_getElem? (i := 31) rfl)) (wl_in_0 _ (List.mem_of_getElem? (i := 32) rfl)) (wl_in_0 _ (List.mem_of_getElem? (i := 33) rfl)) (wl_in_0 _ (List.mem_of_getElem? (i := 8) rfl)) (wl_in_0 _ (List.mem_of_getElem? (i := 15) rfl))) rfl rfl rfl (by decide +kernel) ⟨Nat.le_of_ble_eq_true rfl, Nat.le_of_ble_eq_true rfl⟩) hK hDD hA0 hP hS 0 12 wm0 rfl rfl hl.1 (Nat.le_of_ble_eq_true rfl) dX12_number_23 (fun A4 H locs hw5 hP hS => ?_)
      obtain ⟨hI, hf6, hw5⟩ := hw5
      have r_A4_0_8 : (0 : Int) ≤ (A4 0 8) ∧ (A4 0 8) ≤ 5 := hI 0 8
      exact J26_3 _ _ _ _ hI (fr.trans (fr.rf) hf6 rfl rfl) hP hS (lv_sub hl [0, 1, 2] rfl)
  · have c1 : ¬ (A 0 8) ≤ 0 := mt (i_le0 (rb r_A_0_8 (by decide) (by decide))).mpr c1
    refine lv_iconst (v := iI 0) hx hb dX12_number_7 (by decide +kernel) ?_
    have r_A_0_4 : (0 : Int) ≤ (A 0 4) ∧ (A 0 4) ≤ 1600 := hI 0 4
    exact RET 0 _ _ _ _ _ ⟨hI, fr.rf, hcCB, by omega⟩ hP hS dX12_number_8

def ws_mb_X12_fresh : List Cond := .code yX12_fresh cX12_fresh 3 (some .long) :: WX
set_option maxHeartbeats 4000000 in
set_option maxRecDepth 100000 in
theorem mb_X12_fresh (l : Launch) (dC : Nat → ClassId) (dI : Nat → Nat → Nat) (cB cI cJ cZ cQ : ClassId) (q : Nat → Nat) (A : St) (hI : IM A) (hcCB : CB A) : XMl l yX12_fresh ws_mb_X12_fresh ({ frames := 2, cells := 0, slots := 0, locals := 48 } : Room) (dC, dI) (tyA cB cI cJ cZ cQ) (WM cI cJ cZ q) A [.ref (q 0)] (fun z u => IM u ∧ fr [] [3, 4, 5, 6, 7, 8, 9] A u ∧ CB u ∧ ((-9223372036854775808 ≤ z ∧ z ≤ 9223372036854775807) ∧ A 0 4 ≤ u 0 4)) := by
  refine x_metl (cc := cX12_fresh) (maxL := 3) WM_adr (by decide +kernel) rfl (Nat.le_of_ble_eq_true rfl) (fun p e s m below meth c Q AS ls hx hb hml hown hts hK hDD hA0 hP hS hl RET => ?_)
  have hown : s.vm.findClass RX12 = some m.cls := hown
  have hl : lv_has ls 3 [(0, .ref (q 0))] := hl
  have hiX12 : ∀ w ∈ u_ws RX12 TX12 85, w ∈ ws_mb_X12_fresh := fun w h => List.mem_cons_of_mem _ (wx_lay w h)
  obtain ⟨H, hHe⟩ : ∃ H : Heap, H = s.heap := ⟨_, rfl⟩
  rw [← hHe] at hP
  have hS : va_S AS s.heap H [] := by rw [hHe]; exact hS
  suffices hgo : ∀ locs : List Loc, va_S AS s.heap H locs → W p l e (headSpec ws_mb_X12_fresh ({ frames := 2, cells := 0, slots := 0, locals := 48 } : Room)).room s m [.ref (q 0)].toArray below meth c H locs 0 0 Q (F0 m 0 ls []) by
    have := hgo [] hS
    rw [hHe] at this
    exact this
  clear hS hHe
  intro locs hS
  have hle := CB.le hcCB
  refine lv_aload_n hx hb dX12_fresh_0 rfl (lv_at hl 0 rfl) ?_
  refine va_get (D := (dC, dI)) (ci := 12) (v := .int (iI (A 0 8))) (C := RX12) (T := TX12) (N := 85) hx hb hts hiX12 hown hK hP 0 wm0 rfl 8 (by decide) (hts _ (List.mem_cons_of_mem _ (wl_in_0 _ (List.mem_of_getElem? (i := 16) rfl)))) (fun _ h9 => h9) rfl dX12_fresh_1 ?_
  have r_A_0_8 : (0 : Int) ≤ (A 0 8) ∧ (A 0 8) ≤ 5 := hI 0 8
  refine lv_if_le (tgt := 9) hx hb dX12_fresh_4 (by decide) (fun c1 => ?_) (fun c1 => ?_)
  · have c1 : (A 0 8) ≤ 0 := (i_le0 (rb r_A_0_8 (by decide) (by decide))).mp c1
    refine lv_aload_n hx hb dX12_fresh_9 rfl (lv_at hl 0 rfl) ?_
    refine va_get (D := (dC, dI)) (ci := 12) (v := .int (iI (A 0 3))) (C := RX12) (T := TX12) (N := 85) hx hb hts hiX12 hown hK hP 0 wm0 rfl 3 (by decide) (hts _ (List.mem_cons_of_mem _ (wl_in_0 _ (List.mem_of_getElem? (i := 24) rfl)))) (fun _ h9 => h9) rfl dX12_fresh_10 ?_
    have r_A_0_3 : (0 : Int) ≤ (A 0 3) ∧ (A 0 3) ≤ 3 := hI 0 3
    refine lv_iconst (v := iI 1) hx hb dX12_fresh_13 (by decide +kernel) ?_
    have J37_4 : ∀ (A14 : St) (H : Heap) (locs : List Loc) (ls : Array Slot), IM A14 → fr [] [8, 9] A A14 → va_P (dC, dI) vwCl (WM cI cJ cZ q A14) H → va_S AS s.heap H locs → lv_has ls 3 [(0, .ref (q 0))] → W p l e (headSpec ws_mb_X12_fresh ({ frames := 2, cells := 0, slots := 0, locals := 48 } : Room)).room s m [.ref (q 0)].toArray below meth c H locs 0 0 Q (F0 m 37 ls []) := by
      intro A14 H locs ls hI hj13 hP hS hl
      refine lv_iconst (v := iI 0) hx hb dX12_fresh_37 (by decide +kernel) ?_
      refine lv_istore_n (lv' := [(1, .int (iI 0)), (0, .ref (q 0))]) hx hb dX12_fresh_38 rfl hl (by decide) rfl (fun ls hl => ?_)
      have L39_18 : ∀ (n20 : Nat) (z15 : Int) (A17 : St) (H : Heap) (locs : List Loc) (ls : Array Slot), (0 ≤ z15) → (0 ≤ z15 ∧ z15 ≤ 2147483647) → ((4 - z15 + 1).toNat = n20) → IM A17 → fr [] [8, 9] A14 A17 → va_P (dC, dI) vwCl (WM cI cJ cZ q A17) H → va_S AS s.heap H locs → lv_has ls 3 [(1, .int (iI z15)), (0, .ref (q 0))] → W p l e (headSpec ws_mb_X12_fresh ({ frames := 2, cells := 0, slots := 0, locals := 48 } : Room)).room s m [.ref (q 0)].toArray below meth c H locs 0 0 Q (F0 m 39 ls []) := by
        intro n20
        induction n20 using Nat.strongRecOn with
        | ind n20 ih19 =>
          intro z15 A17 H locs ls f21 f22 hn20 hI hj16 hP hS hl
          refine lv_iload_n hx hb dX12_fresh_39 rfl (lv_at hl 0 rfl) ?_
          refine lv_iconst (v := iI 4) hx hb dX12_fresh_40 (by decide +kernel) ?_
          have J79_24 : ∀ (H : Heap) (locs : List Loc) (ls : Array Slot), va_P (dC, dI) vwCl (WM cI cJ cZ q A17) H → va_S AS s.heap H locs → lv_has ls 3 [(1, .int (iI z15)), (0, .ref (q 0))] → W p l e (headSpec ws_mb_X12_fresh ({ frames := 2, cells := 0, slots := 0, locals := 48 } : Room)).room s m [.ref (q 0)].toArray below meth c H locs 0 0 Q (F0 m 79 ls []) := by
            intro H locs ls hP hS hl
            refine lv_aload_n hx hb dX12_fresh_79 rfl (lv_at hl 1 rfl) ?_
            have e_A14_7 : A14 0 7 = (A 0 7) := (hj13.2 7 rfl)
            have e_A17_7 : A17 0 7 = (A 0 7) := (hj16.2 7 rfl).trans e_A14_7
            refine va_get (D := (dC, dI)) (ci := 12) (v := .long (jI (A17 0 7))) (C := RX12) (T := TX12) (N := 85) hx hb hts hiX12 hown hK hP 0 wm0 rfl 7 (by decide) (hts _ (List.mem_cons_of_mem _ (wl_in_0 _ (List.mem_of_getElem? (i := 26) rfl)))) (fun _ h9 => h9) rfl dX12_fresh_80 ?_
            refine tp_l (y := jI (A 0 7)) (congrArg jI e_A17_7) ?_
            have r_A_0_7 : (-9223372036854775808 : Int) ≤ (A 0 7) ∧ (A 0 7) ≤ 9223372036854775807 := by rw [← e_A17_7]; exact hI 0 7
            refine lv_lstore_n (lv' := [(1, .long (jI (A 0 7))), (0, .ref (q 0))]) hx hb dX12_fresh_83 rfl hl (by decide) rfl (fun ls hl => ?_)
            refine lv_aload_n hx hb dX12_fresh_84 rfl (lv_at hl 1 rfl) ?_
            refine va_get (D := (dC, dI)) (ci := 12) (v := .int (iI (A17 0 8))) (C := RX12) (T := TX12) (N := 85) hx hb hts hiX12 hown hK hP 0 wm0 rfl 8 (by decide) (hts _ (List.mem_cons_of_mem _ (wl_in_0 _ (List.mem_of_getElem? (i := 16) rfl)))) (fun _ h9 => h9) rfl dX12_fresh_85 ?_
            have r_A17_0_8 : (0 : Int) ≤ (A17 0 8) ∧ (A17 0 8) ≤ 5 := hI 0 8
            refine lv_if_ne (tgt := 95) hx hb dX12_fresh_88 (by decide) (fun c37 => ?_) (fun c37 => ?_)
            · have c37 : ¬ (A17 0 8) = 0 := mt (i_eq0 (rb r_A17_0_8 (by decide) (by decide))).mpr c37
              refine lv_lload_n hx hb dX12_fresh_95 rfl (lv_at hl 0 rfl) ?_
              have e_A14_4 : A14 0 4 = (A 0 4) := (hj13.2 4 rfl)
              have e_A17_4 : A17 0 4 = (A 0 4) := (hj16.2 4 rfl).trans e_A14_4
              have r_A_0_4 : (0 : Int) ≤ (A 0 4) ∧ (A 0 4) ≤ 1600 := by rw [← e_A17_4]; exact hI 0 4
              exact RET (A 0 7) _ _ _ _ _ ⟨hI, fr.trans (fr.trans (fr.rf) hj13 rfl rfl) hj16 rfl rfl, (CB.fr (CB.fr hcCB hj13 rfl rfl) hj16 rfl rfl), by omega⟩ hP hS dX12_fresh_96
            · have c37 : (A17 0 8) = 0 := (i_eq0 (rb r_A17_0_8 (by decide) (by decide))).mp c37
              refine lv_aload_n hx hb dX12_fresh_91 rfl (lv_at hl 1 rfl) ?_
              have e_A14_4 : A14 0 4 = (A 0 4) := (hj13.2 4 rfl)
              have e_A17_4 : A17 0 4 = (A 0 4) := (hj16.2 4 rfl).trans e_A14_4
              have r_A_0_4 : (0 : Int) ≤ (A 0 4) ∧ (A 0 4) ≤ 1600 := by rw [← e_A17_4]; exact hI 0 4
              have e_A14_5 : A14 0 5 = (A 0 5) := (hj13.2 5 rfl)
              have e_A17_5 : A17 0 5 = (A 0 5) := (hj16.2 5 rfl).trans e_A14_5
              have r_A_0_5 : (0 : Int) ≤ (A 0 5) ∧ (A 0 5) ≤ 1600 := by rw [← e_A17_5]; exact hI 0 5
              refine x_callv (As := []) (rest := []) ⟨hx, hb, hml, hown, hts⟩ (mb_X12_ahead l dC dI cB cI cJ cZ cQ q _ hI) (cwV 0 hts (goodV (wl_in_0 _ (List.mem_of_getElem? (i := 40) rfl)) (wl_in_0 _ (List.mem_of_getElem? (i := 41) rfl)) (wl_in_0 _ (List.mem_of_getElem? (i := 42) rfl)) (wl_in_0 _ (List.mem_of_getElem? (i := 8) rfl)) (wl_in_0 _ (List.mem_of_getElem? (i := 20) rfl))) rfl rfl rfl (by decide +kernel) ⟨Nat.le_of_ble_eq_true rfl, Nat.le_of_ble_eq_true rfl⟩) hK hDD hA0 hP hS 0 12 wm0 rfl rfl hl.1 (Nat.le_of_ble_eq_true rfl) dX12_fresh_92 (fun A38 H locs hw39 hP hS => ?_)
              obtain ⟨hI, hf40, hw39⟩ := hw39
              have r_A38_0_3 : (0 : Int) ≤ (A38 0 3) ∧ (A38 0 3) ≤ 3 := hI 0 3
              have r_A38_0_4 : (0 : Int) ≤ (A38 0 4) ∧ (A38 0 4) ≤ 1600 := hI 0 4
              have r_A38_0_5 : (0 : Int) ≤ (A38 0 5) ∧ (A38 0 5) ≤ 1600 := hI 0 5
              have r_A38_0_8 : (0 : Int) ≤ (A38 0 8) ∧ (A38 0 8) ≤ 5 := hI 0 8
              have hv41 := CB.le (CB.fr (CB.fr hcCB hj13 rfl rfl) hj16 rfl rfl)
              have hc42 := CB.ahead (CB.fr (CB.fr hcCB hj13 rfl rfl) hj16 rfl rfl) (hf40.2 46 rfl) hw39.1 hw39.2.1 hw39.2.2.1
              refine lv_lload_n hx hb dX12_fresh_95 rfl (lv_at hl 0 rfl) ?_
              exact RET (A 0 7) _ _ _ _ _ ⟨hI, fr.trans (fr.trans (fr.trans (fr.rf) hj13 rfl rfl) hj16 rfl rfl) hf40 rfl rfl, hc42, by omega⟩ hP hS dX12_fresh_96
          refine lv_icmp_gt (tgt := 79) hx hb dX12_fresh_41 (by decide) (fun c23 => ?_) (fun c23 => ?_)
          · have c23 : 4 < z15 := (i_lt ⟨by decide, by decide⟩ (rb f22 (by decide) (by decide))).mp c23
            exact J79_24 _ _ _ hP hS (lv_sub hl [0, 1] rfl)
          · have c23 : ¬ 4 < z15 := mt (i_lt ⟨by decide, by decide⟩ (rb f22 (by decide) (by decide))).mpr c23
            refine lv_aload_n hx hb dX12_fresh_44 rfl (lv_at hl 1 rfl) ?_
            refine va_get (D := (dC, dI)) (ci := 12) (v := .int (iI (A17 0 8))) (C := RX12) (T := TX12) (N := 85) hx hb hts hiX12 hown hK hP 0 wm0 rfl 8 (by decide) (hts _ (List.mem_cons_of_mem _ (wl_in_0 _ (List.mem_of_getElem? (i := 16) rfl)))) (fun _ h9 => h9) rfl dX12_fresh_45 ?_
            have r_A17_0_8 : (0 : Int) ≤ (A17 0 8) ∧ (A17 0 8) ≤ 5 := hI 0 8
            refine lv_if_ne (tgt := 79) hx hb dX12_fresh_48 (by decide) (fun c25 => ?_) (fun c25 => ?_)
            · have c25 : ¬ (A17 0 8) = 0 := mt (i_eq0 (rb r_A17_0_8 (by decide) (by decide))).mpr c25
              exact J79_24 _ _ _ hP hS (lv_sub hl [0, 1] rfl)
            · have c25 : (A17 0 8) = 0 := (i_eq0 (rb r_A17_0_8 (by decide) (by decide))).mp c25
              refine lv_aload_n hx hb dX12_fresh_51 rfl (lv_at hl 1 rfl) ?_
              refine lv_iload_n hx hb dX12_fresh_52 rfl (lv_at hl 0 rfl) ?_
              refine lv_aload_n hx hb dX12_fresh_53 rfl (lv_at hl 1 rfl) ?_
              have e_A14_7 : A14 0 7 = (A 0 7) := (hj13.2 7 rfl)
              have e_A17_7 : A17 0 7 = (A 0 7) := (hj16.2 7 rfl).trans e_A14_7
              refine va_get (D := (dC, dI)) (ci := 12) (v := .long (jI (A17 0 7))) (C := RX12) (T := TX12) (N := 85) hx hb hts hiX12 hown hK hP 0 wm0 rfl 7 (by decide) (hts _ (List.mem_cons_of_mem _ (wl_in_0 _ (List.mem_of_getElem? (i := 26) rfl)))) (fun _ h9 => h9) rfl dX12_fresh_54 ?_
              refine tp_l (y := jI (A 0 7)) (congrArg jI e_A17_7) ?_
              have r_A_0_7 : (-9223372036854775808 : Int) ≤ (A 0 7) ∧ (A 0 7) ≤ 9223372036854775807 := by rw [← e_A17_7]; exact hI 0 7
              refine x_calli (As := [.int (iI z15), .long (jI (A 0 7))]) (rest := []) ⟨hx, hb, hml, hown, hts⟩ (mc_X12_named l dC dI cB cI cJ cZ cQ q _ z15 (A 0 7) hI (by omega) r_A_0_7) (cwV 2 hts (goodV (wl_in_2 _ (List.mem_of_getElem? (i := 26) rfl)) (wl_in_2 _ (List.mem_of_getElem? (i := 27) rfl)) (wl_in_2 _ (List.mem_of_getElem? (i := 28) rfl)) (wl_in_0 _ (List.mem_of_getElem? (i := 8) rfl)) (wl_in_1 _ (List.mem_of_getElem? (i := 10) rfl))) rfl rfl rfl (by decide +kernel) ⟨Nat.le_of_ble_eq_true rfl, Nat.le_of_ble_eq_true rfl⟩) hK hDD hA0 hP hS 0 12 wm0 rfl rfl hl.1 (Nat.le_of_ble_eq_true rfl) dX12_fresh_57 (fun z26 A27 H locs hw28 hP hS => ?_)
              obtain ⟨rfl, hw28⟩ := hw28
              have hw28 : -1 ≤ z26 ∧ z26 ≤ 9 := ⟨hw28.1, hw28.2.1⟩
              refine lv_iconst (v := iI (-1)) hx hb dX12_fresh_60 (by decide +kernel) ?_
              have J73_30 : ∀ (A35 : St) (H : Heap) (locs : List Loc) (ls : Array Slot), IM A35 → fr [] [8, 9] A17 A35 → va_P (dC, dI) vwCl (WM cI cJ cZ q A35) H → va_S AS s.heap H locs → lv_has ls 3 [(1, .int (iI z15)), (0, .ref (q 0))] → W p l e (headSpec ws_mb_X12_fresh ({ frames := 2, cells := 0, slots := 0, locals := 48 } : Room)).room s m [.ref (q 0)].toArray below meth c H locs 0 0 Q (F0 m 73 ls []) := by
                intro A35 H locs ls hI hj34 hP hS hl
                refine lv_iinc (v := iI (z15 + 1)) (lv' := [(1, .int (iI (z15 + 1))), (0, .ref (q 0))]) hx hb dX12_fresh_73 hl (k := 0) rfl (i_inc (by omega)) (by decide) rfl (fun ls hl => ?_)
                refine lv_goto (tgt := 39) hx hb dX12_fresh_76 (by decide) ?_
                exact ih19 _ (by omega) (z15 + 1) _ _ _ _ (by omega) (by omega) rfl hI (fr.trans (fr.trans (fr.rf) hj16 rfl rfl) hj34 rfl rfl) hP hS (lv_sub hl [0, 1] rfl)
              refine lv_icmp_eq (tgt := 73) hx hb dX12_fresh_61 (by decide) (fun c29 => ?_) (fun c29 => ?_)
              · have c29 : z26 = (-1) := (i_eq (rb hw28 (by decide) (by decide)) ⟨by decide, by decide⟩).mp c29
                exact J73_30 _ _ _ _ hI (fr.rf) hP hS (lv_sub hl [0, 1] rfl)
              · have c29 : ¬ z26 = (-1) := mt (i_eq (rb hw28 (by decide) (by decide)) ⟨by decide, by decide⟩).mpr c29
                refine lv_aload_n hx hb dX12_fresh_64 rfl (lv_at hl 1 rfl) ?_
                refine lv_iconst (v := iI 2) hx hb dX12_fresh_65 (by decide +kernel) ?_
                refine lv_aload_n hx hb dX12_fresh_66 rfl (lv_at hl 1 rfl) ?_
                have e_A14_4 : A14 0 4 = (A 0 4) := (hj13.2 4 rfl)
                have e_A17_4 : A17 0 4 = (A 0 4) := (hj16.2 4 rfl).trans e_A14_4
                refine va_get (D := (dC, dI)) (ci := 12) (v := .int (iI (A17 0 4))) (C := RX12) (T := TX12) (N := 85) hx hb hts hiX12 hown hK hP 0 wm0 rfl 4 (by decide) (hts _ (List.mem_cons_of_mem _ (wl_in_0 _ (List.mem_of_getElem? (i := 23) rfl)))) (fun _ h9 => h9) rfl dX12_fresh_67 ?_
                refine tp_i (y := iI (A 0 4)) (congrArg iI e_A17_4) ?_
                have r_A_0_4 : (0 : Int) ≤ (A 0 4) ∧ (A 0 4) ≤ 1600 := by rw [← e_A17_4]; exact hI 0 4
                refine x_callv (As := [.int (iI 2), .int (iI (A 0 4))]) (rest := []) ⟨hx, hb, hml, hown, hts⟩ (mc_X12_blame l dC dI cB cI cJ cZ cQ q _ 2 (A 0 4) hI ⟨by decide, by decide⟩ r_A_0_4) (cwV 2 hts (goodV (wl_in_0 _ (List.mem_of_getElem? (i := 31) rfl)) (wl_in_0 _ (List.mem_of_getElem? (i := 32) rfl)) (wl_in_0 _ (List.mem_of_getElem? (i := 33) rfl)) (wl_in_0 _ (List.mem_of_getElem? (i := 8) rfl)) (wl_in_0 _ (List.mem_of_getElem? (i := 15) rfl))) rfl rfl rfl (by decide +kernel) ⟨Nat.le_of_ble_eq_true rfl, Nat.le_of_ble_eq_true rfl⟩) hK hDD hA0 hP hS 0 12 wm0 rfl rfl hl.1 (Nat.le_of_ble_eq_true rfl) dX12_fresh_70 (fun A31 H locs hw32 hP hS => ?_)
                obtain ⟨hI, hf33, hw32⟩ := hw32
                have r_A31_0_8 : (0 : Int) ≤ (A31 0 8) ∧ (A31 0 8) ≤ 5 := hI 0 8
                exact J73_30 _ _ _ _ hI (fr.trans (fr.rf) hf33 rfl rfl) hP hS (lv_sub hl [0, 1] rfl)
      exact L39_18 _ 0 _ _ _ _ (by omega) (by omega) rfl hI (fr.rf) hP hS (lv_sub hl [0, 1] rfl)
    have J28_3 : ∀ (H : Heap) (locs : List Loc) (ls : Array Slot), va_P (dC, dI) vwCl (WM cI cJ cZ q A) H → va_S AS s.heap H locs → lv_has ls 3 [(0, .ref (q 0))] → W p l e (headSpec ws_mb_X12_fresh ({ frames := 2, cells := 0, slots := 0, locals := 48 } : Room)).room s m [.ref (q 0)].toArray below meth c H locs 0 0 Q (F0 m 28 ls []) := by
      intro H locs ls hP hS hl
      refine lv_aload_n hx hb dX12_fresh_28 rfl (lv_at hl 0 rfl) ?_
      refine lv_iconst (v := iI 1) hx hb dX12_fresh_29 (by decide +kernel) ?_
      refine lv_aload_n hx hb dX12_fresh_30 rfl (lv_at hl 0 rfl) ?_
      refine va_get (D := (dC, dI)) (ci := 12) (v := .int (iI (A 0 4))) (C := RX12) (T := TX12) (N := 85) hx hb hts hiX12 hown hK hP 0 wm0 rfl 4 (by decide) (hts _ (List.mem_cons_of_mem _ (wl_in_0 _ (List.mem_of_getElem? (i := 23) rfl)))) (fun _ h9 => h9) rfl dX12_fresh_31 ?_
      have r_A_0_4 : (0 : Int) ≤ (A 0 4) ∧ (A 0 4) ≤ 1600 := hI 0 4
      refine x_callv (As := [.int (iI 1), .int (iI (A 0 4))]) (rest := []) ⟨hx, hb, hml, hown, hts⟩ (mc_X12_blame l dC dI cB cI cJ cZ cQ q _ 1 (A 0 4) hI ⟨by decide, by decide⟩ r_A_0_4) (cwV 2 hts (goodV (wl_in_0 _ (List.mem_of_getElem? (i := 31) rfl)) (wl_in_0 _ (List.mem_of_getElem? (i := 32) rfl)) (wl_in_0 _ (List.mem_of_getElem? (i := 33) rfl)) (wl_in_0 _ (List.mem_of_getElem? (i := 8) rfl)) (wl_in_0 _ (List.mem_of_getElem? (i := 15) rfl))) rfl rfl rfl (by decide +kernel) ⟨Nat.le_of_ble_eq_true rfl, Nat.le_of_ble_eq_true rfl⟩) hK hDD hA0 hP hS 0 12 wm0 rfl rfl hl.1 (Nat.le_of_ble_eq_true rfl) dX12_fresh_34 (fun A10 H locs hw11 hP hS => ?_)
      obtain ⟨hI, hf12, hw11⟩ := hw11
      have r_A10_0_8 : (0 : Int) ≤ (A10 0 8) ∧ (A10 0 8) ≤ 5 := hI 0 8
      exact J37_4 _ _ _ _ hI (fr.trans (fr.rf) hf12 rfl rfl) hP hS (lv_sub hl [0] rfl)
    refine lv_icmp_ne (tgt := 28) hx hb dX12_fresh_14 (by decide) (fun c2 => ?_) (fun c2 => ?_)
    · have c2 : ¬ (A 0 3) = 1 := mt (i_eq (rb r_A_0_3 (by decide) (by decide)) ⟨by decide, by decide⟩).mpr c2
      exact J28_3 _ _ _ hP hS (lv_sub hl [0] rfl)
    · have c2 : (A 0 3) = 1 := (i_eq (rb r_A_0_3 (by decide) (by decide)) ⟨by decide, by decide⟩).mp c2
      refine lv_aload_n hx hb dX12_fresh_17 rfl (lv_at hl 0 rfl) ?_
      refine lv_aload_n hx hb dX12_fresh_18 rfl (lv_at hl 0 rfl) ?_
      refine va_get (D := (dC, dI)) (ci := 12) (v := .long (jI (A 0 7))) (C := RX12) (T := TX12) (N := 85) hx hb hts hiX12 hown hK hP 0 wm0 rfl 7 (by decide) (hts _ (List.mem_cons_of_mem _ (wl_in_0 _ (List.mem_of_getElem? (i := 26) rfl)))) (fun _ h9 => h9) rfl dX12_fresh_19 ?_
      have r_A_0_7 : (-9223372036854775808 : Int) ≤ (A 0 7) ∧ (A 0 7) ≤ 9223372036854775807 := hI 0 7
      refine x_calli (As := [.long (jI (A 0 7))]) (rest := []) ⟨hx, hb, hml, hown, hts⟩ (mb_X12_isOwn l dC dI cB cI cJ cZ cQ q _ (A 0 7) hI r_A_0_7) (cwV 1 hts (goodV (wl_in_2 _ (List.mem_of_getElem? (i := 23) rfl)) (wl_in_2 _ (List.mem_of_getElem? (i := 24) rfl)) (wl_in_2 _ (List.mem_of_getElem? (i := 25) rfl)) (wl_in_0 _ (List.mem_of_getElem? (i := 8) rfl)) (wl_in_0 _ (List.mem_of_getElem? (i := 43) rfl))) rfl rfl rfl (by decide +kernel) ⟨Nat.le_of_ble_eq_true rfl, Nat.le_of_ble_eq_true rfl⟩) hK hDD hA0 hP hS 0 12 wm0 rfl rfl hl.1 (Nat.le_of_ble_eq_true rfl) dX12_fresh_22 (fun z5 A6 H locs hw7 hP hS => ?_)
      obtain ⟨rfl, hw7⟩ := hw7
      have rz5 : 0 ≤ z5 ∧ z5 ≤ 1 := hw7.1
      refine lv_if_eq (tgt := 37) hx hb dX12_fresh_25 (by decide) (fun c8 => ?_) (fun c8 => ?_)
      · have c8 : z5 = 0 := (i_eq0 (rb rz5 (by decide) (by decide))).mp c8
        exact J37_4 _ _ _ _ hI (fr.rf) hP hS (lv_sub hl [0] rfl)
      · have c8 : ¬ z5 = 0 := mt (i_eq0 (rb rz5 (by decide) (by decide))).mpr c8
        exact J28_3 _ _ _ hP hS (lv_sub hl [0] rfl)
  · have c1 : ¬ (A 0 8) ≤ 0 := mt (i_le0 (rb r_A_0_8 (by decide) (by decide))).mpr c1
    refine lv_lconst (v := jI 0) hx hb dX12_fresh_7 (by decide +kernel) ?_
    have r_A_0_4 : (0 : Int) ≤ (A 0 4) ∧ (A 0 4) ≤ 1600 := hI 0 4
    exact RET 0 _ _ _ _ _ ⟨hI, fr.rf, hcCB, by omega⟩ hP hS dX12_fresh_8
