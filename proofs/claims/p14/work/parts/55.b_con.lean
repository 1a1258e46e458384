def ws_mc_X12_having : List Cond := .code yX12_having cX12_having 3 none :: WX
set_option maxHeartbeats 4000000 in
set_option maxRecDepth 100000 in
theorem mc_X12_having (l : Launch) (dC : Nat → ClassId) (dI : Nat → Nat → Nat) (cB cI cJ cZ cQ : ClassId) (q : Nat → Nat) (A : St) (hI : IM A) : XMv l yX12_having ws_mc_X12_having ({ frames := 3, cells := 0, slots := 0, locals := 70 } : Room) (dC, dI) (tyA cB cI cJ cZ cQ) (WM cI cJ cZ q) A [.ref (q 0)] (fun u => IM u ∧ fr [13] [3, 4, 5, 6, 7, 8, 9] A u ∧ (True)) := by
  refine x_metv (cc := cX12_having) (maxL := 3) WM_adr (by decide +kernel) rfl (Nat.le_of_ble_eq_true rfl) (fun p e s m below meth c Q AS ls hx hb hml hown hts hK hDD hA0 hP hS hl RET => ?_)
  have hown : s.vm.findClass RX12 = some m.cls := hown
  have hl : lv_has ls 3 [(0, .ref (q 0))] := hl
  have hiX12 : ∀ w ∈ u_ws RX12 TX12 85, w ∈ ws_mc_X12_having := fun w h => List.mem_cons_of_mem _ (wx_lay w h)
  obtain ⟨H, hHe⟩ : ∃ H : Heap, H = s.heap := ⟨_, rfl⟩
  rw [← hHe] at hP
  have hS : va_S AS s.heap H [] := by rw [hHe]; exact hS
  suffices hgo : ∀ locs : List Loc, va_S AS s.heap H locs → W p l e (headSpec ws_mc_X12_having ({ frames := 3, cells := 0, slots := 0, locals := 70 } : Room)).room s m [.ref (q 0)].toArray below meth c H locs 0 0 Q (F0 m 0 ls []) by
    have := hgo [] hS
    rw [hHe] at this
    exact this
  clear hS hHe
  intro locs hS
  refine lv_aload_n hx hb dX12_having_0 rfl (lv_at hl 0 rfl) ?_
  refine lv_iconst (v := iI 0) hx hb dX12_having_1 (by decide +kernel) ?_
  refine x_calli (As := [.int (iI 0)]) (rest := []) ⟨hx, hb, hml, hown, hts⟩ (mc_X12_counts l dC dI cB cI cJ cZ cQ q _ 0 hI ⟨by decide, by decide⟩) (cwV 1 hts (goodV (wl_in_2 _ (List.mem_of_getElem? (i := 32) rfl)) (wl_in_2 _ (List.mem_of_getElem? (i := 33) rfl)) (wl_in_2 _ (List.mem_of_getElem? (i := 34) rfl)) (wl_in_0 _ (List.mem_of_getElem? (i := 8) rfl)) (wl_in_2 _ (List.mem_of_getElem? (i := 20) rfl))) rfl rfl rfl (by decide +kernel) ⟨Nat.le_of_ble_eq_true rfl, Nat.le_of_ble_eq_true rfl⟩) hK hDD hA0 hP hS 0 12 wm0 rfl rfl hl.1 (Nat.le_of_ble_eq_true rfl) dX12_having_2 (fun z1 A2 H locs hw3 hP hS => ?_)
  obtain ⟨hI, hf4, hw3⟩ := hw3
  have r_A2_0_8 : (0 : Int) ≤ (A2 0 8) ∧ (A2 0 8) ≤ 5 := hI 0 8
  have rz1 : 0 ≤ z1 ∧ z1 ≤ 1 := hw3.1
  refine lv_if_ne (tgt := 9) hx hb dX12_having_5 (by decide) (fun c5 => ?_) (fun c5 => ?_)
  · have c5 : ¬ z1 = 0 := mt (i_eq0 (rb rz1 (by decide) (by decide))).mpr c5
    refine lv_aload_n hx hb dX12_having_9 rfl (lv_at hl 0 rfl) ?_
    refine lv_iconst (v := iI 3) hx hb dX12_having_10 (by decide +kernel) ?_
    refine x_calli (As := [.int (iI 3)]) (rest := []) ⟨hx, hb, hml, hown, hts⟩ (mc_X12_asked l dC dI cB cI cJ cZ cQ q _ 3 hI ⟨by decide, by decide⟩) (cwV 1 hts (goodV (wl_in_2 _ (List.mem_of_getElem? (i := 47) rfl)) (wl_in_2 _ (List.mem_of_getElem? (i := 48) rfl)) (wl_in_2 _ (List.mem_of_getElem? (i := 49) rfl)) (wl_in_0 _ (List.mem_of_getElem? (i := 8) rfl)) (wl_in_2 _ (List.mem_of_getElem? (i := 29) rfl))) rfl rfl rfl (by decide +kernel) ⟨Nat.le_of_ble_eq_true rfl, Nat.le_of_ble_eq_true rfl⟩) hK hDD hA0 hP hS 0 12 wm0 rfl rfl hl.1 (Nat.le_of_ble_eq_true rfl) dX12_having_11 (fun z6 A7 H locs hw8 hP hS => ?_)
    obtain ⟨hI, hf9, hw8⟩ := hw8
    have hw8 : 0 ≤ z6 ∧ z6 ≤ 2 := ⟨hw8.1, hw8.2.2.2.2.1 rfl⟩
    refine lv_istore_n (lv' := [(1, .int (iI z6)), (0, .ref (q 0))]) hx hb dX12_having_14 rfl hl (by decide) rfl (fun ls hl => ?_)
    refine lv_aload_n hx hb dX12_having_15 rfl (lv_at hl 1 rfl) ?_
    refine va_get (D := (dC, dI)) (ci := 12) (v := .int (iI (A7 0 8))) (C := RX12) (T := TX12) (N := 85) hx hb hts hiX12 hown hK hP 0 wm0 rfl 8 (by decide) (hts _ (List.mem_cons_of_mem _ (wl_in_0 _ (List.mem_of_getElem? (i := 16) rfl)))) (fun _ h9 => h9) rfl dX12_having_16 ?_
    have r_A7_0_8 : (0 : Int) ≤ (A7 0 8) ∧ (A7 0 8) ≤ 5 := hI 0 8
    have J54_12 : ∀ (z22 : Int) (H : Heap) (locs : List Loc) (ls : Array Slot), (-1 ≤ z22 ∧ z22 ≤ 3) → va_P (dC, dI) vwCl (WM cI cJ cZ q A7) H → va_S AS s.heap H locs → lv_has ls 3 [(1, .int (iI z6)), (0, .ref (q 0))] → W p l e (headSpec ws_mc_X12_having ({ frames := 3, cells := 0, slots := 0, locals := 70 } : Room)).room s m [.ref (q 0)].toArray below meth c H locs 0 0 Q (F0 m 54 ls [.int (iI z22)]) := by
      intro z22 H locs ls f24 hP hS hl
      refine lv_istore_n (lv' := [(2, .int (iI z22)), (1, .int (iI z6)), (0, .ref (q 0))]) hx hb dX12_having_54 rfl hl (by decide) rfl (fun ls hl => ?_)
      refine lv_iload_n hx hb dX12_having_55 rfl (lv_at hl 0 rfl) ?_
      refine lv_iconst (v := iI (-1)) hx hb dX12_having_56 (by decide +kernel) ?_
      have J87_26 : ∀ (A33 : St) (H : Heap) (locs : List Loc) (ls : Array Slot), IM A33 → fr [] [8, 9] A7 A33 → va_P (dC, dI) vwCl (WM cI cJ cZ q A33) H → va_S AS s.heap H locs → lv_has ls 3 [(2, .int (iI z22)), (1, .int (iI z6)), (0, .ref (q 0))] → W p l e (headSpec ws_mc_X12_having ({ frames := 3, cells := 0, slots := 0, locals := 70 } : Room)).room s m [.ref (q 0)].toArray below meth c H locs 0 0 Q (F0 m 87 ls []) := by
        intro A33 H locs ls hI hj32 hP hS hl
        refine lv_aload_n hx hb dX12_having_87 rfl (lv_at hl 2 rfl) ?_
        refine lv_iconst (v := iI 2) hx hb dX12_having_88 (by decide +kernel) ?_
        refine x_calli (As := [.int (iI 2)]) (rest := []) ⟨hx, hb, hml, hown, hts⟩ (mc_X12_asked l dC dI cB cI cJ cZ cQ q _ 2 hI ⟨by decide, by decide⟩) (cwV 1 hts (goodV (wl_in_2 _ (List.mem_of_getElem? (i := 47) rfl)) (wl_in_2 _ (List.mem_of_getElem? (i := 48) rfl)) (wl_in_2 _ (List.mem_of_getElem? (i := 49) rfl)) (wl_in_0 _ (List.mem_of_getElem? (i := 8) rfl)) (wl_in_2 _ (List.mem_of_getElem? (i := 29) rfl))) rfl rfl rfl (by decide +kernel) ⟨Nat.le_of_ble_eq_true rfl, Nat.le_of_ble_eq_true rfl⟩) hK hDD hA0 hP hS 0 12 wm0 rfl rfl hl.1 (Nat.le_of_ble_eq_true rfl) dX12_having_89 (fun z34 A35 H locs hw36 hP hS => ?_)
        obtain ⟨hI, hf37, hw36⟩ := hw36
        have hw36 : 0 ≤ z34 ∧ z34 ≤ 3 := ⟨hw36.1, hw36.2.2.2.1 rfl⟩
        refine lv_istore_n (lv' := [(2, .int (iI z34)), (1, .int (iI z6)), (0, .ref (q 0))]) hx hb dX12_having_92 rfl hl (by decide) rfl (fun ls hl => ?_)
        refine lv_aload_n hx hb dX12_having_93 rfl (lv_at hl 2 rfl) ?_
        refine va_get (D := (dC, dI)) (ci := 12) (v := .int (iI (A35 0 8))) (C := RX12) (T := TX12) (N := 85) hx hb hts hiX12 hown hK hP 0 wm0 rfl 8 (by decide) (hts _ (List.mem_cons_of_mem _ (wl_in_0 _ (List.mem_of_getElem? (i := 16) rfl)))) (fun _ h9 => h9) rfl dX12_having_94 ?_
        have r_A35_0_8 : (0 : Int) ≤ (A35 0 8) ∧ (A35 0 8) ≤ 5 := hI 0 8
        refine lv_if_ne (tgt := 114) hx hb dX12_having_97 (by decide) (fun c38 => ?_) (fun c38 => ?_)
        · have c38 : ¬ (A35 0 8) = 0 := mt (i_eq0 (rb r_A35_0_8 (by decide) (by decide))).mpr c38
          exact RET _ _ _ _ _ ⟨hI, fr.trans (fr.trans (fr.trans (fr.trans (fr.rf) hf4 rfl rfl) hf9 rfl rfl) hj32 rfl rfl) hf37 rfl rfl, trivial⟩ hP hS dX12_having_114
        · have c38 : (A35 0 8) = 0 := (i_eq0 (rb r_A35_0_8 (by decide) (by decide))).mp c38
          refine lv_aload_n hx hb dX12_having_100 rfl (lv_at hl 2 rfl) ?_
          refine va_get (D := (dC, dI)) (ci := 12) (v := .ref (q 13)) (C := RX12) (T := TX12) (N := 85) hx hb hts hiX12 hown hK hP 0 wm0 rfl 24 (by decide) (hts _ (List.mem_cons_of_mem _ (wl_in_2 _ (List.mem_of_getElem? (i := 58) rfl)))) (fun _ h9 => h9) rfl dX12_having_101 ?_
          refine lv_iconst (v := iI 4) hx hb dX12_having_104 (by decide +kernel) ?_
          refine lv_aload_n hx hb dX12_having_105 rfl (lv_at hl 2 rfl) ?_
          have e_A2_47 : A2 0 47 = (A 0 47) := (hf4.2 47 rfl)
          have e_A7_47 : A7 0 47 = (A 0 47) := (hf9.2 47 rfl).trans e_A2_47
          have e_A33_47 : A33 0 47 = (A 0 47) := (hj32.2 47 rfl).trans e_A7_47
          have e_A35_47 : A35 0 47 = (A 0 47) := (hf37.2 47 rfl).trans e_A33_47
          refine va_get (D := (dC, dI)) (ci := 12) (v := .int (iI (A35 0 47))) (C := RX12) (T := TX12) (N := 85) hx hb hts hiX12 hown hK hP 0 wm0 rfl 47 (by decide) (hts _ (List.mem_cons_of_mem _ (wl_in_1 _ (List.mem_of_getElem? (i := 12) rfl)))) (fun _ h9 => h9) rfl dX12_having_106 ?_
          refine tp_i (y := iI (A 0 47)) (congrArg iI e_A35_47) ?_
          have r_A_0_47 : (0 : Int) ≤ (A 0 47) ∧ (A 0 47) ≤ 1 := by rw [← e_A35_47]; exact hI 0 47
          refine x_mulv (v := 4 * (A 0 47)) hx hb dX12_having_109 (by omega) ?_
          refine lv_iload_n hx hb dX12_having_110 rfl (lv_at hl 0 rfl) ?_
          refine x_addv (v := 4 * (A 0 47) + z34) hx hb dX12_having_111 (by omega) ?_
          refine lv_iload_n hx hb dX12_having_112 rfl (lv_at hl 1 rfl) ?_
          refine x_iast hx hb hK hP hDD hS 13 1 wm13 rfl (by omega) (by decide) dX12_having_113 ws13 (fun H locs hP hS => ?_)
          have hI := hI.st (j := 13) (i := (4 * (A 0 47) + z34).toNat) (v := z6) (show (0 : Int) ≤ z6 ∧ z6 ≤ 40 from (by omega))
          exact RET _ _ _ _ _ ⟨hI, fr.st (fr.trans (fr.trans (fr.trans (fr.trans (fr.rf) hf4 rfl rfl) hf9 rfl rfl) hj32 rfl rfl) hf37 rfl rfl) (by decide) rfl, trivial⟩ hP hS dX12_having_114
      refine lv_icmp_eq (tgt := 87) hx hb dX12_having_57 (by decide) (fun c25 => ?_) (fun c25 => ?_)
      · have c25 : z22 = (-1) := (i_eq (rb f24 (by decide) (by decide)) ⟨by decide, by decide⟩).mp c25
        exact J87_26 _ _ _ _ hI (fr.rf) hP hS (lv_sub hl [0, 1, 2] rfl)
      · have c25 : ¬ z22 = (-1) := mt (i_eq (rb f24 (by decide) (by decide)) ⟨by decide, by decide⟩).mpr c25
        refine lv_aload_n hx hb dX12_having_60 rfl (lv_at hl 2 rfl) ?_
        refine va_get (D := (dC, dI)) (ci := 12) (v := .ref (q 13)) (C := RX12) (T := TX12) (N := 85) hx hb hts hiX12 hown hK hP 0 wm0 rfl 24 (by decide) (hts _ (List.mem_cons_of_mem _ (wl_in_2 _ (List.mem_of_getElem? (i := 58) rfl)))) (fun _ h9 => h9) rfl dX12_having_61 ?_
        refine lv_iconst (v := iI 4) hx hb dX12_having_64 (by decide +kernel) ?_
        refine lv_aload_n hx hb dX12_having_65 rfl (lv_at hl 2 rfl) ?_
        have e_A2_47 : A2 0 47 = (A 0 47) := (hf4.2 47 rfl)
        have e_A7_47 : A7 0 47 = (A 0 47) := (hf9.2 47 rfl).trans e_A2_47
        refine va_get (D := (dC, dI)) (ci := 12) (v := .int (iI (A7 0 47))) (C := RX12) (T := TX12) (N := 85) hx hb hts hiX12 hown hK hP 0 wm0 rfl 47 (by decide) (hts _ (List.mem_cons_of_mem _ (wl_in_1 _ (List.mem_of_getElem? (i := 12) rfl)))) (fun _ h9 => h9) rfl dX12_having_66 ?_
        refine tp_i (y := iI (A 0 47)) (congrArg iI e_A7_47) ?_
        have r_A_0_47 : (0 : Int) ≤ (A 0 47) ∧ (A 0 47) ≤ 1 := by rw [← e_A7_47]; exact hI 0 47
        refine x_mulv (v := 4 * (A 0 47)) hx hb dX12_having_69 (by omega) ?_
        refine lv_iload_n hx hb dX12_having_70 rfl (lv_at hl 0 rfl) ?_
        refine x_addv (v := 4 * (A 0 47) + z22) hx hb dX12_having_71 (by omega) ?_
        have a_A2_13 : A2 13 = A 13 := (hf4.1 13 (by decide) rfl)
        have a_A7_13 : A7 13 = A 13 := (hf9.1 13 (by decide) rfl).trans a_A2_13
        refine x_iald hx hb hK hP 13 1 wm13 rfl (by omega) (by decide) dX12_having_72 (fun z27 hz27 => ?_)
        have rz27 : (0 : Int) ≤ z27 ∧ z27 ≤ 40 := by rw [hz27]; exact hI 13 _
        have hz27 : z27 = A 13 (4 * (A 0 47) + z22).toNat := hz27.trans (congrFun a_A7_13 _)
        refine lv_bipush (v := iI 10) hx hb dX12_having_73 (by decide +kernel) ?_
        refine lv_icmp_ge (tgt := 87) hx hb dX12_having_75 (by decide) (fun c28 => ?_) (fun c28 => ?_)
        · have c28 : 10 ≤ z27 := (i_le ⟨by decide, by decide⟩ (rb rz27 (by decide) (by decide))).mp c28
          exact J87_26 _ _ _ _ hI (fr.rf) hP hS (lv_sub hl [0, 1, 2] rfl)
        · have c28 : ¬ 10 ≤ z27 := mt (i_le ⟨by decide, by decide⟩ (rb rz27 (by decide) (by decide))).mpr c28
          refine lv_aload_n hx hb dX12_having_78 rfl (lv_at hl 2 rfl) ?_
          refine lv_iconst (v := iI 3) hx hb dX12_having_79 (by decide +kernel) ?_
          refine lv_aload_n hx hb dX12_having_80 rfl (lv_at hl 2 rfl) ?_
          refine va_get (D := (dC, dI)) (ci := 12) (v := .int (iI (A7 0 4))) (C := RX12) (T := TX12) (N := 85) hx hb hts hiX12 hown hK hP 0 wm0 rfl 4 (by decide) (hts _ (List.mem_cons_of_mem _ (wl_in_0 _ (List.mem_of_getElem? (i := 23) rfl)))) (fun _ h9 => h9) rfl dX12_having_81 ?_
          have r_A7_0_4 : (0 : Int) ≤ (A7 0 4) ∧ (A7 0 4) ≤ 1600 := hI 0 4
          refine x_callv (As := [.int (iI 3), .int (iI (A7 0 4))]) (rest := []) ⟨hx, hb, hml, hown, hts⟩ (mc_X12_blame l dC dI cB cI cJ cZ cQ q _ 3 (A7 0 4) hI ⟨by decide, by decide⟩ r_A7_0_4) (cwV 2 hts (goodV (wl_in_0 _ (List.mem_of_getElem? (i := 31) rfl)) (wl_in_0 _ (List.mem_of_getElem? (i := 32) rfl)) (wl_in_0 _ (List.mem_of_getElem? (i := 33) rfl)) (wl_in_0 _ (List.mem_of_getElem? (i := 8) rfl)) (wl_in_0 _ (List.mem_of_getElem? (i := 15) rfl))) rfl rfl rfl (by decide +kernel) ⟨Nat.le_of_ble_eq_true rfl, Nat.le_of_ble_eq_true rfl⟩) hK hDD hA0 hP hS 0 12 wm0 rfl rfl hl.1 (Nat.le_of_ble_eq_true rfl) dX12_having_84 (fun A29 H locs hw30 hP hS => ?_)
          obtain ⟨_, hI, hf31, hw30⟩ := hw30
          have r_A29_0_8 : (0 : Int) ≤ (A29 0 8) ∧ (A29 0 8) ≤ 5 := hI 0 8
          exact J87_26 _ _ _ _ hI (fr.trans (fr.rf) hf31 rfl rfl) hP hS (lv_sub hl [0, 1, 2] rfl)
    have J53_11 : ∀ (H : Heap) (locs : List Loc) (ls : Array Slot), va_P (dC, dI) vwCl (WM cI cJ cZ q A7) H → va_S AS s.heap H locs → lv_has ls 3 [(1, .int (iI z6)), (0, .ref (q 0))] → W p l e (headSpec ws_mc_X12_having ({ frames := 3, cells := 0, slots := 0, locals := 70 } : Room)).room s m [.ref (q 0)].toArray below meth c H locs 0 0 Q (F0 m 53 ls []) := by
      intro H locs ls hP hS hl
      refine lv_iconst (v := iI (-1)) hx hb dX12_having_53 (by decide +kernel) ?_
      exact J54_12 (-1) _ _ _ (by omega) hP hS (lv_sub hl [0, 1] rfl)
    refine lv_if_ne (tgt := 53) hx hb dX12_having_19 (by decide) (fun c10 => ?_) (fun c10 => ?_)
    · have c10 : ¬ (A7 0 8) = 0 := mt (i_eq0 (rb r_A7_0_8 (by decide) (by decide))).mpr c10
      exact J53_11 _ _ _ hP hS (lv_sub hl [0, 1] rfl)
    · have c10 : (A7 0 8) = 0 := (i_eq0 (rb r_A7_0_8 (by decide) (by decide))).mp c10
      refine lv_aload_n hx hb dX12_having_22 rfl (lv_at hl 1 rfl) ?_
      refine va_get (D := (dC, dI)) (ci := 12) (v := .int (iI (A7 0 3))) (C := RX12) (T := TX12) (N := 85) hx hb hts hiX12 hown hK hP 0 wm0 rfl 3 (by decide) (hts _ (List.mem_cons_of_mem _ (wl_in_0 _ (List.mem_of_getElem? (i := 24) rfl)))) (fun _ h9 => h9) rfl dX12_having_23 ?_
      have r_A7_0_3 : (0 : Int) ≤ (A7 0 3) ∧ (A7 0 3) ≤ 3 := hI 0 3
      refine lv_iconst (v := iI 1) hx hb dX12_having_26 (by decide +kernel) ?_
      refine lv_icmp_ne (tgt := 53) hx hb dX12_having_27 (by decide) (fun c13 => ?_) (fun c13 => ?_)
      · have c13 : ¬ (A7 0 3) = 1 := mt (i_eq (rb r_A7_0_3 (by decide) (by decide)) ⟨by decide, by decide⟩).mpr c13
        exact J53_11 _ _ _ hP hS (lv_sub hl [0, 1] rfl)
      · have c13 : (A7 0 3) = 1 := (i_eq (rb r_A7_0_3 (by decide) (by decide)) ⟨by decide, by decide⟩).mp c13
        refine lv_aload_n hx hb dX12_having_30 rfl (lv_at hl 1 rfl) ?_
        refine lv_aload_n hx hb dX12_having_31 rfl (lv_at hl 1 rfl) ?_
        refine va_get (D := (dC, dI)) (ci := 12) (v := .long (jI (A7 0 7))) (C := RX12) (T := TX12) (N := 85) hx hb hts hiX12 hown hK hP 0 wm0 rfl 7 (by decide) (hts _ (List.mem_cons_of_mem _ (wl_in_0 _ (List.mem_of_getElem? (i := 26) rfl)))) (fun _ h9 => h9) rfl dX12_having_32 ?_
        have r_A7_0_7 : (-9223372036854775808 : Int) ≤ (A7 0 7) ∧ (A7 0 7) ≤ 9223372036854775807 := hI 0 7
        refine x_calli (As := [.long (jI (A7 0 7))]) (rest := []) ⟨hx, hb, hml, hown, hts⟩ (mc_X12_isOwn l dC dI cB cI cJ cZ cQ q _ (A7 0 7) hI r_A7_0_7) (cwV 1 hts (goodV (wl_in_2 _ (List.mem_of_getElem? (i := 23) rfl)) (wl_in_2 _ (List.mem_of_getElem? (i := 24) rfl)) (wl_in_2 _ (List.mem_of_getElem? (i := 25) rfl)) (wl_in_0 _ (List.mem_of_getElem? (i := 8) rfl)) (wl_in_0 _ (List.mem_of_getElem? (i := 43) rfl))) rfl rfl rfl (by decide +kernel) ⟨Nat.le_of_ble_eq_true rfl, Nat.le_of_ble_eq_true rfl⟩) hK hDD hA0 hP hS 0 12 wm0 rfl rfl hl.1 (Nat.le_of_ble_eq_true rfl) dX12_having_35 (fun z14 A15 H locs hw16 hP hS => ?_)
        obtain ⟨rfl, hw16⟩ := hw16
        refine lv_if_ne (tgt := 53) hx hb dX12_having_38 (by decide) (fun c17 => ?_) (fun c17 => ?_)
        · have c17 : ¬ z14 = 0 := mt (i_eq0 (rb hw16 (by decide) (by decide))).mpr c17
          exact J53_11 _ _ _ hP hS (lv_sub hl [0, 1] rfl)
        · have c17 : z14 = 0 := (i_eq0 (rb hw16 (by decide) (by decide))).mp c17
          refine lv_aload_n hx hb dX12_having_41 rfl (lv_at hl 1 rfl) ?_
          refine lv_iconst (v := iI 2) hx hb dX12_having_42 (by decide +kernel) ?_
          refine lv_aload_n hx hb dX12_having_43 rfl (lv_at hl 1 rfl) ?_
          refine va_get (D := (dC, dI)) (ci := 12) (v := .long (jI (A7 0 7))) (C := RX12) (T := TX12) (N := 85) hx hb hts hiX12 hown hK hP 0 wm0 rfl 7 (by decide) (hts _ (List.mem_cons_of_mem _ (wl_in_0 _ (List.mem_of_getElem? (i := 26) rfl)))) (fun _ h9 => h9) rfl dX12_having_44 ?_
          refine x_calli (As := [.int (iI 2), .long (jI (A7 0 7))]) (rest := []) ⟨hx, hb, hml, hown, hts⟩ (mc_X12_named l dC dI cB cI cJ cZ cQ q _ 2 (A7 0 7) hI ⟨by decide, by decide⟩ r_A7_0_7) (cwV 2 hts (goodV (wl_in_2 _ (List.mem_of_getElem? (i := 26) rfl)) (wl_in_2 _ (List.mem_of_getElem? (i := 27) rfl)) (wl_in_2 _ (List.mem_of_getElem? (i := 28) rfl)) (wl_in_0 _ (List.mem_of_getElem? (i := 8) rfl)) (wl_in_1 _ (List.mem_of_getElem? (i := 10) rfl))) rfl rfl rfl (by decide +kernel) ⟨Nat.le_of_ble_eq_true rfl, Nat.le_of_ble_eq_true rfl⟩) hK hDD hA0 hP hS 0 12 wm0 rfl rfl hl.1 (Nat.le_of_ble_eq_true rfl) dX12_having_47 (fun z18 A19 H locs hw20 hP hS => ?_)
          obtain ⟨rfl, hw20⟩ := hw20
          have hw20 := hw20.2
          have hw20 : -1 ≤ z18 ∧ z18 ≤ 3 := ⟨hw20.1, hw20.2.2.2.1 rfl⟩
          refine lv_goto (tgt := 54) hx hb dX12_having_50 (by decide) ?_
          exact J54_12 z18 _ _ _ (by omega) hP hS (lv_sub hl [0, 1] rfl)
  · have c5 : z1 = 0 := (i_eq0 (rb rz1 (by decide) (by decide))).mp c5
    exact RET _ _ _ _ _ ⟨hI, fr.trans (fr.rf) hf4 rfl rfl, trivial⟩ hP hS dX12_having_8
