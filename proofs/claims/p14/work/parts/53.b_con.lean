def ws_mc_X12_person : List Cond := .code yX12_person cX12_person 2 none :: WX
set_option maxHeartbeats 4000000 in
set_option maxRecDepth 100000 in
theorem mc_X12_person (l : Launch) (dC : Nat → ClassId) (dI : Nat → Nat → Nat) (cB cI cJ cZ cQ : ClassId) (q : Nat → Nat) (A : St) (hI : IM A) : XMv l yX12_person ws_mc_X12_person ({ frames := 3, cells := 0, slots := 0, locals := 70 } : Room) (dC, dI) (tyA cB cI cJ cZ cQ) (WM cI cJ cZ q) A [.ref (q 0)] (fun u => IM u ∧ fr [16, 17, 18] [3, 4, 5, 6, 7, 8, 9] A u ∧ (True)) := by
  refine x_metv (cc := cX12_person) (maxL := 2) WM_adr (by decide +kernel) rfl (Nat.le_of_ble_eq_true rfl) (fun p e s m below meth c Q AS ls hx hb hml hown hts hK hDD hA0 hP hS hl RET => ?_)
  have hown : s.vm.findClass RX12 = some m.cls := hown
  have hl : lv_has ls 2 [(0, .ref (q 0))] := hl
  have hiX12 : ∀ w ∈ u_ws RX12 TX12 85, w ∈ ws_mc_X12_person := fun w h => List.mem_cons_of_mem _ (wx_lay w h)
  obtain ⟨H, hHe⟩ : ∃ H : Heap, H = s.heap := ⟨_, rfl⟩
  rw [← hHe] at hP
  have hS : va_S AS s.heap H [] := by rw [hHe]; exact hS
  suffices hgo : ∀ locs : List Loc, va_S AS s.heap H locs → W p l e (headSpec ws_mc_X12_person ({ frames := 3, cells := 0, slots := 0, locals := 70 } : Room)).room s m [.ref (q 0)].toArray below meth c H locs 0 0 Q (F0 m 0 ls []) by
    have := hgo [] hS
    rw [hHe] at this
    exact this
  clear hS hHe
  intro locs hS
  refine lv_aload_n hx hb dX12_person_0 rfl (lv_at hl 0 rfl) ?_
  refine lv_aload_n hx hb dX12_person_1 rfl (lv_at hl 0 rfl) ?_
  refine va_get (D := (dC, dI)) (ci := 12) (v := .ref (q 16)) (C := RX12) (T := TX12) (N := 85) hx hb hts hiX12 hown hK hP 0 wm0 rfl 27 (by decide) (hts _ (List.mem_cons_of_mem _ (wl_in_1 _ (List.mem_of_getElem? (i := 15) rfl)))) (fun _ h9 => h9) rfl dX12_person_2 ?_
  refine lv_aload_n hx hb dX12_person_5 rfl (lv_at hl 0 rfl) ?_
  refine va_get (D := (dC, dI)) (ci := 12) (v := .int (iI (A 0 47))) (C := RX12) (T := TX12) (N := 85) hx hb hts hiX12 hown hK hP 0 wm0 rfl 47 (by decide) (hts _ (List.mem_cons_of_mem _ (wl_in_1 _ (List.mem_of_getElem? (i := 12) rfl)))) (fun _ h9 => h9) rfl dX12_person_6 ?_
  have r_A_0_47 : (0 : Int) ≤ (A 0 47) ∧ (A 0 47) ≤ 1 := hI 0 47
  refine x_iald hx hb hK hP 16 1 wm16 rfl (by omega) (by decide) dX12_person_9 (fun z1 hz1 => ?_)
  have rz1 : (0 : Int) ≤ z1 ∧ z1 ≤ 3 := by rw [hz1]; exact hI 16 _
  have hz1 : z1 = A 16 ((A 0 47)).toNat := hz1
  refine lv_iconst (v := iI 3) hx hb dX12_person_10 (by decide +kernel) ?_
  have J19_3 : ∀ (z4 : Int) (H : Heap) (locs : List Loc) (ls : Array Slot), (0 ≤ z4 ∧ z4 ≤ 1) → ((z4 = 0 ∧ ¬ z1 = 3) ∨ (z4 = 1 ∧ z1 = 3)) → va_P (dC, dI) vwCl (WM cI cJ cZ q A) H → va_S AS s.heap H locs → lv_has ls 2 [(0, .ref (q 0))] → W p l e (headSpec ws_mc_X12_person ({ frames := 3, cells := 0, slots := 0, locals := 70 } : Room)).room s m [.ref (q 0)].toArray below meth c H locs 0 0 Q (F0 m 19 ls [.int (iI z4), .ref (q 0)]) := by
    intro z4 H locs ls f6 f7 hP hS hl
    refine x_calli (As := [.int (iI z4)]) (rest := []) ⟨hx, hb, hml, hown, hts⟩ (mc_X12_counts l dC dI cB cI cJ cZ cQ q _ z4 hI f6) (cwV 1 hts (goodV (wl_in_2 _ (List.mem_of_getElem? (i := 32) rfl)) (wl_in_2 _ (List.mem_of_getElem? (i := 33) rfl)) (wl_in_2 _ (List.mem_of_getElem? (i := 34) rfl)) (wl_in_0 _ (List.mem_of_getElem? (i := 8) rfl)) (wl_in_2 _ (List.mem_of_getElem? (i := 20) rfl))) rfl rfl rfl (by decide +kernel) ⟨Nat.le_of_ble_eq_true rfl, Nat.le_of_ble_eq_true rfl⟩) hK hDD hA0 hP hS 0 12 wm0 rfl rfl hl.1 (Nat.le_of_ble_eq_true rfl) dX12_person_19 (fun z8 A9 H locs hw10 hP hS => ?_)
    obtain ⟨hI, hf11, hw10⟩ := hw10
    have r_A9_0_8 : (0 : Int) ≤ (A9 0 8) ∧ (A9 0 8) ≤ 5 := hI 0 8
    have rz8 : 0 ≤ z8 ∧ z8 ≤ 1 := hw10.1
    refine lv_if_ne (tgt := 26) hx hb dX12_person_22 (by decide) (fun c12 => ?_) (fun c12 => ?_)
    · have c12 : ¬ z8 = 0 := mt (i_eq0 (rb rz8 (by decide) (by decide))).mpr c12
      refine lv_iconst (v := iI 3) hx hb dX12_person_26 (by decide +kernel) ?_
      refine lv_aload_n hx hb dX12_person_27 rfl (lv_at hl 0 rfl) ?_
      have e_A9_47 : A9 0 47 = (A 0 47) := (hf11.2 47 rfl)
      refine va_get (D := (dC, dI)) (ci := 12) (v := .int (iI (A9 0 47))) (C := RX12) (T := TX12) (N := 85) hx hb hts hiX12 hown hK hP 0 wm0 rfl 47 (by decide) (hts _ (List.mem_cons_of_mem _ (wl_in_1 _ (List.mem_of_getElem? (i := 12) rfl)))) (fun _ h9 => h9) rfl dX12_person_28 ?_
      refine tp_i (y := iI (A 0 47)) (congrArg iI e_A9_47) ?_
      refine x_mulv (v := 3 * (A 0 47)) hx hb dX12_person_31 (by omega) ?_
      refine lv_aload_n hx hb dX12_person_32 rfl (lv_at hl 0 rfl) ?_
      refine va_get (D := (dC, dI)) (ci := 12) (v := .ref (q 16)) (C := RX12) (T := TX12) (N := 85) hx hb hts hiX12 hown hK hP 0 wm0 rfl 27 (by decide) (hts _ (List.mem_cons_of_mem _ (wl_in_1 _ (List.mem_of_getElem? (i := 15) rfl)))) (fun _ h9 => h9) rfl dX12_person_33 ?_
      refine lv_aload_n hx hb dX12_person_36 rfl (lv_at hl 0 rfl) ?_
      refine va_get (D := (dC, dI)) (ci := 12) (v := .int (iI (A9 0 47))) (C := RX12) (T := TX12) (N := 85) hx hb hts hiX12 hown hK hP 0 wm0 rfl 47 (by decide) (hts _ (List.mem_cons_of_mem _ (wl_in_1 _ (List.mem_of_getElem? (i := 12) rfl)))) (fun _ h9 => h9) rfl dX12_person_37 ?_
      refine tp_i (y := iI (A 0 47)) (congrArg iI e_A9_47) ?_
      have a_A9_16 : A9 16 = A 16 := (hf11.1 16 (by decide) rfl)
      refine x_iald hx hb hK hP 16 1 wm16 rfl (by omega) (by decide) dX12_person_40 (fun z13 hz13 => ?_)
      have rz13 : (0 : Int) ≤ z13 ∧ z13 ≤ 3 := by rw [hz13]; exact hI 16 _
      have hz13 : z13 = A 16 ((A 0 47)).toNat := hz13.trans (congrFun a_A9_16 _)
      have ez13 : z13 = z1 := hz13.trans hz1.symm
      refine x_addv (v := 3 * (A 0 47) + z13) hx hb dX12_person_41 (by omega) ?_
      refine lv_istore_n (lv' := [(1, .int (iI (3 * (A 0 47) + z13))), (0, .ref (q 0))]) hx hb dX12_person_42 rfl hl (by decide) rfl (fun ls hl => ?_)
      refine lv_aload_n hx hb dX12_person_43 rfl (lv_at hl 1 rfl) ?_
      refine va_get (D := (dC, dI)) (ci := 12) (v := .ref (q 17)) (C := RX12) (T := TX12) (N := 85) hx hb hts hiX12 hown hK hP 0 wm0 rfl 28 (by decide) (hts _ (List.mem_cons_of_mem _ (wl_in_1 _ (List.mem_of_getElem? (i := 24) rfl)))) (fun _ h9 => h9) rfl dX12_person_44 ?_
      refine lv_iload_n hx hb dX12_person_47 rfl (lv_at hl 0 rfl) ?_
      refine lv_aload_n hx hb dX12_person_48 rfl (lv_at hl 1 rfl) ?_
      refine x_calll (As := []) (rest := [.int (iI (3 * (A 0 47) + z13)), .ref (q 17)]) ⟨hx, hb, hml, hown, hts⟩ (mc_X12_fresh l dC dI cB cI cJ cZ cQ q _ hI) (cwV 0 hts (goodV (wl_in_2 _ (List.mem_of_getElem? (i := 35) rfl)) (wl_in_2 _ (List.mem_of_getElem? (i := 36) rfl)) (wl_in_2 _ (List.mem_of_getElem? (i := 37) rfl)) (wl_in_0 _ (List.mem_of_getElem? (i := 8) rfl)) (wl_in_2 _ (List.mem_of_getElem? (i := 22) rfl))) rfl rfl rfl (by decide +kernel) ⟨Nat.le_of_ble_eq_true rfl, Nat.le_of_ble_eq_true rfl⟩) hK hDD hA0 hP hS 0 12 wm0 rfl rfl hl.1 (Nat.le_of_ble_eq_true rfl) dX12_person_49 (fun z14 A15 H locs hw16 hP hS => ?_)
      obtain ⟨hI, hf17, hw16⟩ := hw16
      refine x_last hx hb hK hP hDD hS 17 2 wm17 rfl (by omega) (by decide) dX12_person_52 ws17 (fun H locs hP hS => ?_)
      have hI := hI.st (j := 17) (i := (3 * (A 0 47) + z13).toNat) (v := z14) (show (-9223372036854775808 : Int) ≤ z14 ∧ z14 ≤ 9223372036854775807 from (by omega))
      refine lv_aload_n hx hb dX12_person_53 rfl (lv_at hl 1 rfl) ?_
      refine lv_ldc2 (v := 24948) hx hb hown (hts _ (List.mem_cons_of_mem _ (wl_in_0 _ (List.mem_of_getElem? (i := 47) rfl)))) dX12_person_54 ?_
      refine tp_l (y := jI 24948) (by decide +kernel) ?_
      obtain ⟨A18, hA18⟩ : ∃ A18 : St, A18 = (stA A15 17 (3 * (A 0 47) + z13).toNat z14) := ⟨_, rfl⟩
      rw [← hA18] at hP hI
      refine x_callv (As := [.long (jI 24948)]) (rest := []) ⟨hx, hb, hml, hown, hts⟩ (mc_X12_must_ l dC dI cB cI cJ cZ cQ q _ 24948 hI ⟨by decide, by decide⟩) (cwV 1 hts (goodV (wl_in_2 _ (List.mem_of_getElem? (i := 44) rfl)) (wl_in_2 _ (List.mem_of_getElem? (i := 45) rfl)) (wl_in_2 _ (List.mem_of_getElem? (i := 46) rfl)) (wl_in_0 _ (List.mem_of_getElem? (i := 8) rfl)) (wl_in_2 _ (List.mem_of_getElem? (i := 21) rfl))) rfl rfl rfl (by decide +kernel) ⟨Nat.le_of_ble_eq_true rfl, Nat.le_of_ble_eq_true rfl⟩) hK hDD hA0 hP hS 0 12 wm0 rfl rfl hl.1 (Nat.le_of_ble_eq_true rfl) dX12_person_57 (fun A19 H locs hw20 hP hS => ?_)
      obtain ⟨hI, hf21, hw20⟩ := hw20
      clear hw20
      refine lv_aload_n hx hb dX12_person_60 rfl (lv_at hl 1 rfl) ?_
      refine va_get (D := (dC, dI)) (ci := 12) (v := .ref (q 18)) (C := RX12) (T := TX12) (N := 85) hx hb hts hiX12 hown hK hP 0 wm0 rfl 29 (by decide) (hts _ (List.mem_cons_of_mem _ (wl_in_3 _ (List.mem_of_getElem? (i := 4) rfl)))) (fun _ h9 => h9) rfl dX12_person_61 ?_
      refine lv_iload_n hx hb dX12_person_64 rfl (lv_at hl 0 rfl) ?_
      refine lv_aload_n hx hb dX12_person_65 rfl (lv_at hl 1 rfl) ?_
      refine lv_iconst (v := iI 0) hx hb dX12_person_66 (by decide +kernel) ?_
      refine x_calli (As := [.int (iI 0)]) (rest := [.int (iI (3 * (A 0 47) + z13)), .ref (q 18)]) ⟨hx, hb, hml, hown, hts⟩ (mc_X12_asked l dC dI cB cI cJ cZ cQ q _ 0 hI ⟨by decide, by decide⟩) (cwV 1 hts (goodV (wl_in_2 _ (List.mem_of_getElem? (i := 47) rfl)) (wl_in_2 _ (List.mem_of_getElem? (i := 48) rfl)) (wl_in_2 _ (List.mem_of_getElem? (i := 49) rfl)) (wl_in_0 _ (List.mem_of_getElem? (i := 8) rfl)) (wl_in_2 _ (List.mem_of_getElem? (i := 29) rfl))) rfl rfl rfl (by decide +kernel) ⟨Nat.le_of_ble_eq_true rfl, Nat.le_of_ble_eq_true rfl⟩) hK hDD hA0 hP hS 0 12 wm0 rfl rfl hl.1 (Nat.le_of_ble_eq_true rfl) dX12_person_67 (fun z22 A23 H locs hw24 hP hS => ?_)
      obtain ⟨hI, hf25, hw24⟩ := hw24
      have hw24 : 0 ≤ z22 ∧ z22 ≤ 7 := ⟨hw24.1, hw24.2.2.1 rfl⟩
      refine x_iast hx hb hK hP hDD hS 18 1 wm18 rfl (by omega) (by decide) dX12_person_70 ws18 (fun H locs hP hS => ?_)
      have hI := hI.st (j := 18) (i := (3 * (A 0 47) + z13).toNat) (v := z22) (show (0 : Int) ≤ z22 ∧ z22 ≤ 7 from (by omega))
      refine lv_aload_n hx hb dX12_person_71 rfl (lv_at hl 1 rfl) ?_
      refine va_get (D := (dC, dI)) (ci := 12) (v := .int (iI (A23 0 8))) (C := RX12) (T := TX12) (N := 85) hx hb hts hiX12 hown hK hP 0 wm0 rfl 8 (by decide) (hts _ (List.mem_cons_of_mem _ (wl_in_0 _ (List.mem_of_getElem? (i := 16) rfl)))) (fun _ h9 => h9) rfl dX12_person_72 ?_
      have r_A23_0_8 : (0 : Int) ≤ (A23 0 8) ∧ (A23 0 8) ≤ 5 := hI 0 8
      refine lv_if_ne (tgt := 91) hx hb dX12_person_75 (by decide) (fun c26 => ?_) (fun c26 => ?_)
      · have c26 : ¬ (A23 0 8) = 0 := mt (i_eq0 (rb r_A23_0_8 (by decide) (by decide))).mpr c26
        exact RET _ _ _ _ _ ⟨hI, fr.st (fr.trans (fr.trans (fr_def hA18 (fr.st (fr.trans (fr.trans (fr.rf) hf11 rfl rfl) hf17 rfl rfl) (by decide) rfl)) hf21 rfl rfl) hf25 rfl rfl) (by decide) rfl, trivial⟩ hP hS dX12_person_91
      · have c26 : (A23 0 8) = 0 := (i_eq0 (rb r_A23_0_8 (by decide) (by decide))).mp c26
        refine lv_aload_n hx hb dX12_person_78 rfl (lv_at hl 1 rfl) ?_
        refine va_get (D := (dC, dI)) (ci := 12) (v := .ref (q 16)) (C := RX12) (T := TX12) (N := 85) hx hb hts hiX12 hown hK hP 0 wm0 rfl 27 (by decide) (hts _ (List.mem_cons_of_mem _ (wl_in_1 _ (List.mem_of_getElem? (i := 15) rfl)))) (fun _ h9 => h9) rfl dX12_person_79 ?_
        refine lv_aload_n hx hb dX12_person_82 rfl (lv_at hl 1 rfl) ?_
        have e_A15_47 : A15 0 47 = (A 0 47) := (hf17.2 47 rfl).trans e_A9_47
        have e_A18_47 : A18 0 47 = (A 0 47) := by rw [hA18]; exact e_A15_47
        have e_A19_47 : A19 0 47 = (A 0 47) := (hf21.2 47 rfl).trans e_A18_47
        have e_A23_47 : A23 0 47 = (A 0 47) := (hf25.2 47 rfl).trans e_A19_47
        refine va_get (D := (dC, dI)) (ci := 12) (v := .int (iI (A23 0 47))) (C := RX12) (T := TX12) (N := 85) hx hb hts hiX12 hown hK hP 0 wm0 rfl 47 (by decide) (hts _ (List.mem_cons_of_mem _ (wl_in_1 _ (List.mem_of_getElem? (i := 12) rfl)))) (fun _ h9 => h9) rfl dX12_person_83 ?_
        refine tp_i (y := iI (A 0 47)) (congrArg iI e_A23_47) ?_
        refine lv_dup2_11 hx hb dX12_person_86 rfl rfl ?_
        have a_A15_16 : A15 16 = A 16 := (hf17.1 16 (by decide) rfl).trans a_A9_16
        have a_A18_16 : A18 16 = A 16 := by rw [hA18]; exact a_A15_16
        have a_A19_16 : A19 16 = A 16 := (hf21.1 16 (by decide) rfl).trans a_A18_16
        have a_A23_16 : A23 16 = A 16 := (hf25.1 16 (by decide) rfl).trans a_A19_16
        refine x_iald hx hb hK hP 16 1 wm16 rfl (by omega) (by decide) dX12_person_87 (fun z27 hz27 => ?_)
        have rz27 : (0 : Int) ≤ z27 ∧ z27 ≤ 3 := by rw [hz27]; exact hI 16 _
        have hz27 : z27 = A 16 ((A 0 47)).toNat := hz27.trans (congrFun a_A23_16 _)
        have ez27 : z27 = z1 := hz27.trans hz1.symm
        refine lv_iconst (v := iI 1) hx hb dX12_person_88 (by decide +kernel) ?_
        refine x_addv (v := z27 + 1) hx hb dX12_person_89 (by omega) ?_
        refine x_iast hx hb hK hP hDD hS 16 1 wm16 rfl (by omega) (by decide) dX12_person_90 ws16 (fun H locs hP hS => ?_)
        have hI := hI.st (j := 16) (i := ((A 0 47)).toNat) (v := z27 + 1) (show (0 : Int) ≤ z27 + 1 ∧ z27 + 1 ≤ 3 from (by omega))
        exact RET _ _ _ _ _ ⟨hI, fr.st (fr.st (fr.trans (fr.trans (fr_def hA18 (fr.st (fr.trans (fr.trans (fr.rf) hf11 rfl rfl) hf17 rfl rfl) (by decide) rfl)) hf21 rfl rfl) hf25 rfl rfl) (by decide) rfl) (by decide) rfl, trivial⟩ hP hS dX12_person_91
    · have c12 : z8 = 0 := (i_eq0 (rb rz8 (by decide) (by decide))).mp c12
      exact RET _ _ _ _ _ ⟨hI, fr.trans (fr.rf) hf11 rfl rfl, trivial⟩ hP hS dX12_person_25
  refine lv_icmp_ne (tgt := 18) hx hb dX12_person_11 (by decide) (fun c2 => ?_) (fun c2 => ?_)
  · have c2 : ¬ z1 = 3 := mt (i_eq (rb rz1 (by decide) (by decide)) ⟨by decide, by decide⟩).mpr c2
    refine lv_iconst (v := iI 0) hx hb dX12_person_18 (by decide +kernel) ?_
    exact J19_3 0 _ _ _ (by omega) (by omega) hP hS (lv_sub hl [0] rfl)
  · have c2 : z1 = 3 := (i_eq (rb rz1 (by decide) (by decide)) ⟨by decide, by decide⟩).mp c2
    refine lv_iconst (v := iI 1) hx hb dX12_person_14 (by decide +kernel) ?_
    refine lv_goto (tgt := 19) hx hb dX12_person_15 (by decide) ?_
    exact J19_3 1 _ _ _ (by omega) (by omega) hP hS (lv_sub hl [0] rfl)
