def ws_mc_X12_losing : List Cond := .code yX12_losing cX12_losing 2 none :: WX
set_option maxHeartbeats 4000000 in
set_option maxRecDepth 100000 in
theorem mc_X12_losing (l : Launch) (dC : Nat → ClassId) (dI : Nat → Nat → Nat) (cB cI cJ cZ cQ : ClassId) (q : Nat → Nat) (A : St) (hI : IM A) : XMv l yX12_losing ws_mc_X12_losing ({ frames := 3, cells := 0, slots := 0, locals := 70 } : Room) (dC, dI) (tyA cB cI cJ cZ cQ) (WM cI cJ cZ q) A [.ref (q 0)] (fun u => IM u ∧ fr [10] [3, 4, 5, 6, 7, 8, 9] A u ∧ (True)) := by
  refine x_metv (cc := cX12_losing) (maxL := 2) WM_adr (by decide +kernel) rfl (Nat.le_of_ble_eq_true rfl) (fun p e s m below meth c Q AS ls hx hb hml hown hts hK hDD hA0 hP hS hl RET => ?_)
  have hown : s.vm.findClass RX12 = some m.cls := hown
  have hl : lv_has ls 2 [(0, .ref (q 0))] := hl
  have hiX12 : ∀ w ∈ u_ws RX12 TX12 85, w ∈ ws_mc_X12_losing := fun w h => List.mem_cons_of_mem _ (wx_lay w h)
  obtain ⟨H, hHe⟩ : ∃ H : Heap, H = s.heap := ⟨_, rfl⟩
  rw [← hHe] at hP
  have hS : va_S AS s.heap H [] := by rw [hHe]; exact hS
  suffices hgo : ∀ locs : List Loc, va_S AS s.heap H locs → W p l e (headSpec ws_mc_X12_losing ({ frames := 3, cells := 0, slots := 0, locals := 70 } : Room)).room s m [.ref (q 0)].toArray below meth c H locs 0 0 Q (F0 m 0 ls []) by
    have := hgo [] hS
    rw [hHe] at this
    exact this
  clear hS hHe
  intro locs hS
  refine lv_aload_n hx hb dX12_losing_0 rfl (lv_at hl 0 rfl) ?_
  refine lv_iconst (v := iI 0) hx hb dX12_losing_1 (by decide +kernel) ?_
  refine x_calli (As := [.int (iI 0)]) (rest := []) ⟨hx, hb, hml, hown, hts⟩ (mc_X12_counts l dC dI cB cI cJ cZ cQ q _ 0 hI ⟨by decide, by decide⟩) (cwV 1 hts (goodV (wl_in_2 _ (List.mem_of_getElem? (i := 32) rfl)) (wl_in_2 _ (List.mem_of_getElem? (i := 33) rfl)) (wl_in_2 _ (List.mem_of_getElem? (i := 34) rfl)) (wl_in_0 _ (List.mem_of_getElem? (i := 8) rfl)) (wl_in_2 _ (List.mem_of_getElem? (i := 20) rfl))) rfl rfl rfl (by decide +kernel) ⟨Nat.le_of_ble_eq_true rfl, Nat.le_of_ble_eq_true rfl⟩) hK hDD hA0 hP hS 0 12 wm0 rfl rfl hl.1 (Nat.le_of_ble_eq_true rfl) dX12_losing_2 (fun z1 A2 H locs hw3 hP hS => ?_)
  obtain ⟨hI, hf4, hw3⟩ := hw3
  have r_A2_0_8 : (0 : Int) ≤ (A2 0 8) ∧ (A2 0 8) ≤ 5 := hI 0 8
  have rz1 : 0 ≤ z1 ∧ z1 ≤ 1 := hw3.1
  refine lv_if_ne (tgt := 9) hx hb dX12_losing_5 (by decide) (fun c5 => ?_) (fun c5 => ?_)
  · have c5 : ¬ z1 = 0 := mt (i_eq0 (rb rz1 (by decide) (by decide))).mpr c5
    refine lv_aload_n hx hb dX12_losing_9 rfl (lv_at hl 0 rfl) ?_
    refine va_get (D := (dC, dI)) (ci := 12) (v := .int (iI (A2 0 8))) (C := RX12) (T := TX12) (N := 85) hx hb hts hiX12 hown hK hP 0 wm0 rfl 8 (by decide) (hts _ (List.mem_cons_of_mem _ (wl_in_0 _ (List.mem_of_getElem? (i := 16) rfl)))) (fun _ h9 => h9) rfl dX12_losing_10 ?_
    have J48_8 : ∀ (z18 : Int) (H : Heap) (locs : List Loc) (ls : Array Slot), (-1 ≤ z18 ∧ z18 ≤ 9) → va_P (dC, dI) vwCl (WM cI cJ cZ q A2) H → va_S AS s.heap H locs → lv_has ls 2 [(0, .ref (q 0))] → W p l e (headSpec ws_mc_X12_losing ({ frames := 3, cells := 0, slots := 0, locals := 70 } : Room)).room s m [.ref (q 0)].toArray below meth c H locs 0 0 Q (F0 m 48 ls [.int (iI z18)]) := by
      intro z18 H locs ls f20 hP hS hl
      refine lv_istore_n (lv' := [(1, .int (iI z18)), (0, .ref (q 0))]) hx hb dX12_losing_48 rfl hl (by decide) rfl (fun ls hl => ?_)
      refine lv_iload_n hx hb dX12_losing_49 rfl (lv_at hl 0 rfl) ?_
      refine lv_iconst (v := iI (-1)) hx hb dX12_losing_50 (by decide +kernel) ?_
      have J80_22 : ∀ (A29 : St) (H : Heap) (locs : List Loc) (ls : Array Slot), IM A29 → fr [] [8, 9] A2 A29 → va_P (dC, dI) vwCl (WM cI cJ cZ q A29) H → va_S AS s.heap H locs → lv_has ls 2 [(1, .int (iI z18)), (0, .ref (q 0))] → W p l e (headSpec ws_mc_X12_losing ({ frames := 3, cells := 0, slots := 0, locals := 70 } : Room)).room s m [.ref (q 0)].toArray below meth c H locs 0 0 Q (F0 m 80 ls []) := by
        intro A29 H locs ls hI hj28 hP hS hl
        refine lv_aload_n hx hb dX12_losing_80 rfl (lv_at hl 1 rfl) ?_
        refine lv_iconst (v := iI 1) hx hb dX12_losing_81 (by decide +kernel) ?_
        refine x_calli (As := [.int (iI 1)]) (rest := []) ⟨hx, hb, hml, hown, hts⟩ (mc_X12_asked l dC dI cB cI cJ cZ cQ q _ 1 hI ⟨by decide, by decide⟩) (cwV 1 hts (goodV (wl_in_2 _ (List.mem_of_getElem? (i := 47) rfl)) (wl_in_2 _ (List.mem_of_getElem? (i := 48) rfl)) (wl_in_2 _ (List.mem_of_getElem? (i := 49) rfl)) (wl_in_0 _ (List.mem_of_getElem? (i := 8) rfl)) (wl_in_2 _ (List.mem_of_getElem? (i := 29) rfl))) rfl rfl rfl (by decide +kernel) ⟨Nat.le_of_ble_eq_true rfl, Nat.le_of_ble_eq_true rfl⟩) hK hDD hA0 hP hS 0 12 wm0 rfl rfl hl.1 (Nat.le_of_ble_eq_true rfl) dX12_losing_82 (fun z30 A31 H locs hw32 hP hS => ?_)
        obtain ⟨hI, hf33, hw32⟩ := hw32
        have hw32 : 0 ≤ z30 ∧ z30 ≤ 9 := ⟨hw32.1, hw32.2.1⟩
        refine lv_istore_n (lv' := [(1, .int (iI z30)), (0, .ref (q 0))]) hx hb dX12_losing_85 rfl hl (by decide) rfl (fun ls hl => ?_)
        refine lv_aload_n hx hb dX12_losing_86 rfl (lv_at hl 1 rfl) ?_
        refine va_get (D := (dC, dI)) (ci := 12) (v := .int (iI (A31 0 8))) (C := RX12) (T := TX12) (N := 85) hx hb hts hiX12 hown hK hP 0 wm0 rfl 8 (by decide) (hts _ (List.mem_cons_of_mem _ (wl_in_0 _ (List.mem_of_getElem? (i := 16) rfl)))) (fun _ h9 => h9) rfl dX12_losing_87 ?_
        have r_A31_0_8 : (0 : Int) ≤ (A31 0 8) ∧ (A31 0 8) ≤ 5 := hI 0 8
        refine lv_if_ne (tgt := 108) hx hb dX12_losing_90 (by decide) (fun c34 => ?_) (fun c34 => ?_)
        · have c34 : ¬ (A31 0 8) = 0 := mt (i_eq0 (rb r_A31_0_8 (by decide) (by decide))).mpr c34
          exact RET _ _ _ _ _ ⟨hI, fr.trans (fr.trans (fr.trans (fr.rf) hf4 rfl rfl) hj28 rfl rfl) hf33 rfl rfl, trivial⟩ hP hS dX12_losing_108
        · have c34 : (A31 0 8) = 0 := (i_eq0 (rb r_A31_0_8 (by decide) (by decide))).mp c34
          refine lv_aload_n hx hb dX12_losing_93 rfl (lv_at hl 1 rfl) ?_
          refine va_get (D := (dC, dI)) (ci := 12) (v := .ref (q 10)) (C := RX12) (T := TX12) (N := 85) hx hb hts hiX12 hown hK hP 0 wm0 rfl 21 (by decide) (hts _ (List.mem_cons_of_mem _ (wl_in_2 _ (List.mem_of_getElem? (i := 43) rfl)))) (fun _ h9 => h9) rfl dX12_losing_94 ?_
          refine lv_bipush (v := iI 10) hx hb dX12_losing_97 (by decide +kernel) ?_
          refine lv_aload_n hx hb dX12_losing_99 rfl (lv_at hl 1 rfl) ?_
          have e_A2_47 : A2 0 47 = (A 0 47) := (hf4.2 47 rfl)
          have e_A29_47 : A29 0 47 = (A 0 47) := (hj28.2 47 rfl).trans e_A2_47
          have e_A31_47 : A31 0 47 = (A 0 47) := (hf33.2 47 rfl).trans e_A29_47
          refine va_get (D := (dC, dI)) (ci := 12) (v := .int (iI (A31 0 47))) (C := RX12) (T := TX12) (N := 85) hx hb hts hiX12 hown hK hP 0 wm0 rfl 47 (by decide) (hts _ (List.mem_cons_of_mem _ (wl_in_1 _ (List.mem_of_getElem? (i := 12) rfl)))) (fun _ h9 => h9) rfl dX12_losing_100 ?_
          refine tp_i (y := iI (A 0 47)) (congrArg iI e_A31_47) ?_
          have r_A_0_47 : (0 : Int) ≤ (A 0 47) ∧ (A 0 47) ≤ 1 := by rw [← e_A31_47]; exact hI 0 47
          refine x_mulv (v := 10 * (A 0 47)) hx hb dX12_losing_103 (by omega) ?_
          refine lv_iload_n hx hb dX12_losing_104 rfl (lv_at hl 0 rfl) ?_
          refine x_addv (v := 10 * (A 0 47) + z30) hx hb dX12_losing_105 (by omega) ?_
          refine lv_iconst (v := iI 1) hx hb dX12_losing_106 (by decide +kernel) ?_
          refine x_zast hx hb hK hP hDD hS 10 3 wm10 rfl (by omega) (by decide) dX12_losing_107 (by omega) ws10 (fun H locs hP hS => ?_)
          have hI := hI.st (j := 10) (i := (10 * (A 0 47) + z30).toNat) (v := 1) (show (0 : Int) ≤ 1 ∧ 1 ≤ 1 from (by omega))
          exact RET _ _ _ _ _ ⟨hI, fr.st (fr.trans (fr.trans (fr.trans (fr.rf) hf4 rfl rfl) hj28 rfl rfl) hf33 rfl rfl) (by decide) rfl, trivial⟩ hP hS dX12_losing_108
      refine lv_icmp_eq (tgt := 80) hx hb dX12_losing_51 (by decide) (fun c21 => ?_) (fun c21 => ?_)
      · have c21 : z18 = (-1) := (i_eq (rb f20 (by decide) (by decide)) ⟨by decide, by decide⟩).mp c21
        exact J80_22 _ _ _ _ hI (fr.rf) hP hS (lv_sub hl [0, 1] rfl)
      · have c21 : ¬ z18 = (-1) := mt (i_eq (rb f20 (by decide) (by decide)) ⟨by decide, by decide⟩).mpr c21
        refine lv_aload_n hx hb dX12_losing_54 rfl (lv_at hl 1 rfl) ?_
        refine va_get (D := (dC, dI)) (ci := 12) (v := .ref (q 10)) (C := RX12) (T := TX12) (N := 85) hx hb hts hiX12 hown hK hP 0 wm0 rfl 21 (by decide) (hts _ (List.mem_cons_of_mem _ (wl_in_2 _ (List.mem_of_getElem? (i := 43) rfl)))) (fun _ h9 => h9) rfl dX12_losing_55 ?_
        refine lv_bipush (v := iI 10) hx hb dX12_losing_58 (by decide +kernel) ?_
        refine lv_aload_n hx hb dX12_losing_60 rfl (lv_at hl 1 rfl) ?_
        have e_A2_47 : A2 0 47 = (A 0 47) := (hf4.2 47 rfl)
        refine va_get (D := (dC, dI)) (ci := 12) (v := .int (iI (A2 0 47))) (C := RX12) (T := TX12) (N := 85) hx hb hts hiX12 hown hK hP 0 wm0 rfl 47 (by decide) (hts _ (List.mem_cons_of_mem _ (wl_in_1 _ (List.mem_of_getElem? (i := 12) rfl)))) (fun _ h9 => h9) rfl dX12_losing_61 ?_
        refine tp_i (y := iI (A 0 47)) (congrArg iI e_A2_47) ?_
        have r_A_0_47 : (0 : Int) ≤ (A 0 47) ∧ (A 0 47) ≤ 1 := by rw [← e_A2_47]; exact hI 0 47
        refine x_mulv (v := 10 * (A 0 47)) hx hb dX12_losing_64 (by omega) ?_
        refine lv_iload_n hx hb dX12_losing_65 rfl (lv_at hl 0 rfl) ?_
        refine x_addv (v := 10 * (A 0 47) + z18) hx hb dX12_losing_66 (by omega) ?_
        have a_A2_10 : A2 10 = A 10 := (hf4.1 10 (by decide) rfl)
        refine x_zald hx hb hK hP 10 3 wm10 rfl (by omega) (by decide) dX12_losing_67 (fun z23 hz23 => ?_)
        have rz23 : (0 : Int) ≤ z23 ∧ z23 ≤ 1 := by rw [hz23]; exact hI 10 _
        have hz23 : z23 = A 10 (10 * (A 0 47) + z18).toNat := hz23.trans (congrFun a_A2_10 _)
        refine lv_if_eq (tgt := 80) hx hb dX12_losing_68 (by decide) (fun c24 => ?_) (fun c24 => ?_)
        · have c24 : z23 = 0 := (i_eq0 (rb rz23 (by decide) (by decide))).mp c24
          exact J80_22 _ _ _ _ hI (fr.rf) hP hS (lv_sub hl [0, 1] rfl)
        · have c24 : ¬ z23 = 0 := mt (i_eq0 (rb rz23 (by decide) (by decide))).mpr c24
          refine lv_aload_n hx hb dX12_losing_71 rfl (lv_at hl 1 rfl) ?_
          refine lv_iconst (v := iI 3) hx hb dX12_losing_72 (by decide +kernel) ?_
          refine lv_aload_n hx hb dX12_losing_73 rfl (lv_at hl 1 rfl) ?_
          refine va_get (D := (dC, dI)) (ci := 12) (v := .int (iI (A2 0 4))) (C := RX12) (T := TX12) (N := 85) hx hb hts hiX12 hown hK hP 0 wm0 rfl 4 (by decide) (hts _ (List.mem_cons_of_mem _ (wl_in_0 _ (List.mem_of_getElem? (i := 23) rfl)))) (fun _ h9 => h9) rfl dX12_losing_74 ?_
          have r_A2_0_4 : (0 : Int) ≤ (A2 0 4) ∧ (A2 0 4) ≤ 1600 := hI 0 4
          refine x_callv (As := [.int (iI 3), .int (iI (A2 0 4))]) (rest := []) ⟨hx, hb, hml, hown, hts⟩ (mc_X12_blame l dC dI cB cI cJ cZ cQ q _ 3 (A2 0 4) hI ⟨by decide, by decide⟩ r_A2_0_4) (cwV 2 hts (goodV (wl_in_0 _ (List.mem_of_getElem? (i := 31) rfl)) (wl_in_0 _ (List.mem_of_getElem? (i := 32) rfl)) (wl_in_0 _ (List.mem_of_getElem? (i := 33) rfl)) (wl_in_0 _ (List.mem_of_getElem? (i := 8) rfl)) (wl_in_0 _ (List.mem_of_getElem? (i := 15) rfl))) rfl rfl rfl (by decide +kernel) ⟨Nat.le_of_ble_eq_true rfl, Nat.le_of_ble_eq_true rfl⟩) hK hDD hA0 hP hS 0 12 wm0 rfl rfl hl.1 (Nat.le_of_ble_eq_true rfl) dX12_losing_77 (fun A25 H locs hw26 hP hS => ?_)
          obtain ⟨_, hI, hf27, hw26⟩ := hw26
          have r_A25_0_8 : (0 : Int) ≤ (A25 0 8) ∧ (A25 0 8) ≤ 5 := hI 0 8
          exact J80_22 _ _ _ _ hI (fr.trans (fr.rf) hf27 rfl rfl) hP hS (lv_sub hl [0, 1] rfl)
    have J47_7 : ∀ (H : Heap) (locs : List Loc) (ls : Array Slot), va_P (dC, dI) vwCl (WM cI cJ cZ q A2) H → va_S AS s.heap H locs → lv_has ls 2 [(0, .ref (q 0))] → W p l e (headSpec ws_mc_X12_losing ({ frames := 3, cells := 0, slots := 0, locals := 70 } : Room)).room s m [.ref (q 0)].toArray below meth c H locs 0 0 Q (F0 m 47 ls []) := by
      intro H locs ls hP hS hl
      refine lv_iconst (v := iI (-1)) hx hb dX12_losing_47 (by decide +kernel) ?_
      exact J48_8 (-1) _ _ _ (by omega) hP hS (lv_sub hl [0] rfl)
    refine lv_if_ne (tgt := 47) hx hb dX12_losing_13 (by decide) (fun c6 => ?_) (fun c6 => ?_)
    · have c6 : ¬ (A2 0 8) = 0 := mt (i_eq0 (rb r_A2_0_8 (by decide) (by decide))).mpr c6
      exact J47_7 _ _ _ hP hS (lv_sub hl [0] rfl)
    · have c6 : (A2 0 8) = 0 := (i_eq0 (rb r_A2_0_8 (by decide) (by decide))).mp c6
      refine lv_aload_n hx hb dX12_losing_16 rfl (lv_at hl 0 rfl) ?_
      refine va_get (D := (dC, dI)) (ci := 12) (v := .int (iI (A2 0 3))) (C := RX12) (T := TX12) (N := 85) hx hb hts hiX12 hown hK hP 0 wm0 rfl 3 (by decide) (hts _ (List.mem_cons_of_mem _ (wl_in_0 _ (List.mem_of_getElem? (i := 24) rfl)))) (fun _ h9 => h9) rfl dX12_losing_17 ?_
      have r_A2_0_3 : (0 : Int) ≤ (A2 0 3) ∧ (A2 0 3) ≤ 3 := hI 0 3
      refine lv_iconst (v := iI 1) hx hb dX12_losing_20 (by decide +kernel) ?_
      refine lv_icmp_ne (tgt := 47) hx hb dX12_losing_21 (by decide) (fun c9 => ?_) (fun c9 => ?_)
      · have c9 : ¬ (A2 0 3) = 1 := mt (i_eq (rb r_A2_0_3 (by decide) (by decide)) ⟨by decide, by decide⟩).mpr c9
        exact J47_7 _ _ _ hP hS (lv_sub hl [0] rfl)
      · have c9 : (A2 0 3) = 1 := (i_eq (rb r_A2_0_3 (by decide) (by decide)) ⟨by decide, by decide⟩).mp c9
        refine lv_aload_n hx hb dX12_losing_24 rfl (lv_at hl 0 rfl) ?_
        refine lv_aload_n hx hb dX12_losing_25 rfl (lv_at hl 0 rfl) ?_
        refine va_get (D := (dC, dI)) (ci := 12) (v := .long (jI (A2 0 7))) (C := RX12) (T := TX12) (N := 85) hx hb hts hiX12 hown hK hP 0 wm0 rfl 7 (by decide) (hts _ (List.mem_cons_of_mem _ (wl_in_0 _ (List.mem_of_getElem? (i := 26) rfl)))) (fun _ h9 => h9) rfl dX12_losing_26 ?_
        have r_A2_0_7 : (-9223372036854775808 : Int) ≤ (A2 0 7) ∧ (A2 0 7) ≤ 9223372036854775807 := hI 0 7
        refine x_calli (As := [.long (jI (A2 0 7))]) (rest := []) ⟨hx, hb, hml, hown, hts⟩ (mc_X12_isOwn l dC dI cB cI cJ cZ cQ q _ (A2 0 7) hI r_A2_0_7) (cwV 1 hts (goodV (wl_in_2 _ (List.mem_of_getElem? (i := 23) rfl)) (wl_in_2 _ (List.mem_of_getElem? (i := 24) rfl)) (wl_in_2 _ (List.mem_of_getElem? (i := 25) rfl)) (wl_in_0 _ (List.mem_of_getElem? (i := 8) rfl)) (wl_in_0 _ (List.mem_of_getElem? (i := 43) rfl))) rfl rfl rfl (by decide +kernel) ⟨Nat.le_of_ble_eq_true rfl, Nat.le_of_ble_eq_true rfl⟩) hK hDD hA0 hP hS 0 12 wm0 rfl rfl hl.1 (Nat.le_of_ble_eq_true rfl) dX12_losing_29 (fun z10 A11 H locs hw12 hP hS => ?_)
        obtain ⟨rfl, hw12⟩ := hw12
        refine lv_if_ne (tgt := 47) hx hb dX12_losing_32 (by decide) (fun c13 => ?_) (fun c13 => ?_)
        · have c13 : ¬ z10 = 0 := mt (i_eq0 (rb hw12 (by decide) (by decide))).mpr c13
          exact J47_7 _ _ _ hP hS (lv_sub hl [0] rfl)
        · have c13 : z10 = 0 := (i_eq0 (rb hw12 (by decide) (by decide))).mp c13
          refine lv_aload_n hx hb dX12_losing_35 rfl (lv_at hl 0 rfl) ?_
          refine lv_iconst (v := iI 1) hx hb dX12_losing_36 (by decide +kernel) ?_
          refine lv_aload_n hx hb dX12_losing_37 rfl (lv_at hl 0 rfl) ?_
          refine va_get (D := (dC, dI)) (ci := 12) (v := .long (jI (A2 0 7))) (C := RX12) (T := TX12) (N := 85) hx hb hts hiX12 hown hK hP 0 wm0 rfl 7 (by decide) (hts _ (List.mem_cons_of_mem _ (wl_in_0 _ (List.mem_of_getElem? (i := 26) rfl)))) (fun _ h9 => h9) rfl dX12_losing_38 ?_
          refine x_calli (As := [.int (iI 1), .long (jI (A2 0 7))]) (rest := []) ⟨hx, hb, hml, hown, hts⟩ (mc_X12_named l dC dI cB cI cJ cZ cQ q _ 1 (A2 0 7) hI ⟨by decide, by decide⟩ r_A2_0_7) (cwV 2 hts (goodV (wl_in_2 _ (List.mem_of_getElem? (i := 26) rfl)) (wl_in_2 _ (List.mem_of_getElem? (i := 27) rfl)) (wl_in_2 _ (List.mem_of_getElem? (i := 28) rfl)) (wl_in_0 _ (List.mem_of_getElem? (i := 8) rfl)) (wl_in_1 _ (List.mem_of_getElem? (i := 10) rfl))) rfl rfl rfl (by decide +kernel) ⟨Nat.le_of_ble_eq_true rfl, Nat.le_of_ble_eq_true rfl⟩) hK hDD hA0 hP hS 0 12 wm0 rfl rfl hl.1 (Nat.le_of_ble_eq_true rfl) dX12_losing_41 (fun z14 A15 H locs hw16 hP hS => ?_)
          obtain ⟨rfl, hw16⟩ := hw16
          have hw16 := hw16.2
          have hw16 : -1 ≤ z14 ∧ z14 ≤ 9 := ⟨hw16.1, hw16.2.1⟩
          refine lv_goto (tgt := 48) hx hb dX12_losing_44 (by decide) ?_
          exact J48_8 z14 _ _ _ (by omega) hP hS (lv_sub hl [0] rfl)
  · have c5 : z1 = 0 := (i_eq0 (rb rz1 (by decide) (by decide))).mp c5
    exact RET _ _ _ _ _ ⟨hI, fr.trans (fr.rf) hf4 rfl rfl, trivial⟩ hP hS dX12_losing_8
