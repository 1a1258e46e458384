def ws_mc_X12_key : List Cond := .code yX12_key cX12_key 2 none :: WX
set_option maxHeartbeats 4000000 in
set_option maxRecDepth 100000 in
theorem mc_X12_key (l : Launch) (dC : Nat → ClassId) (dI : Nat → Nat → Nat) (cB cI cJ cZ cQ : ClassId) (q : Nat → Nat) (A : St) (hI : IM A) : XMv l yX12_key ws_mc_X12_key ({ frames := 4, cells := 0, slots := 0, locals := 91 } : Room) (dC, dI) (tyA cB cI cJ cZ cQ) (WM cI cJ cZ q) A [.ref (q 0)] (fun u => IM u ∧ fr [11, 12, 13, 14] [3, 4, 5, 6, 7, 8, 9] A u ∧ (True)) := by
  refine x_metv (cc := cX12_key) (maxL := 2) WM_adr (by decide +kernel) rfl (Nat.le_of_ble_eq_true rfl) (fun p e s m below meth c Q AS ls hx hb hml hown hts hK hDD hA0 hP hS hl RET => ?_)
  have hown : s.vm.findClass RX12 = some m.cls := hown
  have hl : lv_has ls 2 [(0, .ref (q 0))] := hl
  have hiX12 : ∀ w ∈ u_ws RX12 TX12 85, w ∈ ws_mc_X12_key := fun w h => List.mem_cons_of_mem _ (wx_lay w h)
  obtain ⟨H, hHe⟩ : ∃ H : Heap, H = s.heap := ⟨_, rfl⟩
  rw [← hHe] at hP
  have hS : va_S AS s.heap H [] := by rw [hHe]; exact hS
  suffices hgo : ∀ locs : List Loc, va_S AS s.heap H locs → W p l e (headSpec ws_mc_X12_key ({ frames := 4, cells := 0, slots := 0, locals := 91 } : Room)).room s m [.ref (q 0)].toArray below meth c H locs 0 0 Q (F0 m 0 ls []) by
    have := hgo [] hS
    rw [hHe] at this
    exact this
  clear hS hHe
  intro locs hS
  refine lv_aload_n hx hb dX12_key_0 rfl (lv_at hl 0 rfl) ?_
  refine lv_aload_n hx hb dX12_key_1 rfl (lv_at hl 0 rfl) ?_
  refine va_get (D := (dC, dI)) (ci := 12) (v := .ref (q 11)) (C := RX12) (T := TX12) (N := 85) hx hb hts hiX12 hown hK hP 0 wm0 rfl 22 (by decide) (hts _ (List.mem_cons_of_mem _ (wl_in_1 _ (List.mem_of_getElem? (i := 14) rfl)))) (fun _ h9 => h9) rfl dX12_key_2 ?_
  refine lv_aload_n hx hb dX12_key_5 rfl (lv_at hl 0 rfl) ?_
  refine va_get (D := (dC, dI)) (ci := 12) (v := .int (iI (A 0 47))) (C := RX12) (T := TX12) (N := 85) hx hb hts hiX12 hown hK hP 0 wm0 rfl 47 (by decide) (hts _ (List.mem_cons_of_mem _ (wl_in_1 _ (List.mem_of_getElem? (i := 12) rfl)))) (fun _ h9 => h9) rfl dX12_key_6 ?_
  have r_A_0_47 : (0 : Int) ≤ (A 0 47) ∧ (A 0 47) ≤ 1 := hI 0 47
  refine x_iald hx hb hK hP 11 1 wm11 rfl (by omega) (by decide) dX12_key_9 (fun z1 hz1 => ?_)
  have rz1 : (0 : Int) ≤ z1 ∧ z1 ≤ 4 := by rw [hz1]; exact hI 11 _
  have hz1 : z1 = A 11 ((A 0 47)).toNat := hz1
  refine lv_iconst (v := iI 4) hx hb dX12_key_10 (by decide +kernel) ?_
  have J19_3 : ∀ (z4 : Int) (H : Heap) (locs : List Loc) (ls : Array Slot), (0 ≤ z4 ∧ z4 ≤ 1) → ((z4 = 0 ∧ ¬ z1 = 4) ∨ (z4 = 1 ∧ z1 = 4)) → va_P (dC, dI) vwCl (WM cI cJ cZ q A) H → va_S AS s.heap H locs → lv_has ls 2 [(0, .ref (q 0))] → W p l e (headSpec ws_mc_X12_key ({ frames := 4, cells := 0, slots := 0, locals := 91 } : Room)).room s m [.ref (q 0)].toArray below meth c H locs 0 0 Q (F0 m 19 ls [.int (iI z4), .ref (q 0)]) := by
    intro z4 H locs ls f6 f7 hP hS hl
    refine x_calli (As := [.int (iI z4)]) (rest := []) ⟨hx, hb, hml, hown, hts⟩ (mc_X12_counts l dC dI cB cI cJ cZ cQ q _ z4 hI f6) (cwV 1 hts (goodV (wl_in_2 _ (List.mem_of_getElem? (i := 32) rfl)) (wl_in_2 _ (List.mem_of_getElem? (i := 33) rfl)) (wl_in_2 _ (List.mem_of_getElem? (i := 34) rfl)) (wl_in_0 _ (List.mem_of_getElem? (i := 8) rfl)) (wl_in_2 _ (List.mem_of_getElem? (i := 20) rfl))) rfl rfl rfl (by decide +kernel) ⟨Nat.le_of_ble_eq_true rfl, Nat.le_of_ble_eq_true rfl⟩) hK hDD hA0 hP hS 0 12 wm0 rfl rfl hl.1 (Nat.le_of_ble_eq_true rfl) dX12_key_19 (fun z8 A9 H locs hw10 hP hS => ?_)
    obtain ⟨hI, hf11, hw10⟩ := hw10
    have r_A9_0_8 : (0 : Int) ≤ (A9 0 8) ∧ (A9 0 8) ≤ 5 := hI 0 8
    have rz8 : 0 ≤ z8 ∧ z8 ≤ 1 := hw10.1
    refine lv_if_ne (tgt := 26) hx hb dX12_key_22 (by decide) (fun c12 => ?_) (fun c12 => ?_)
    · have c12 : ¬ z8 = 0 := mt (i_eq0 (rb rz8 (by decide) (by decide))).mpr c12
      refine lv_iconst (v := iI 4) hx hb dX12_key_26 (by decide +kernel) ?_
      refine lv_aload_n hx hb dX12_key_27 rfl (lv_at hl 0 rfl) ?_
      have e_A9_47 : A9 0 47 = (A 0 47) := (hf11.2 47 rfl)
      refine va_get (D := (dC, dI)) (ci := 12) (v := .int (iI (A9 0 47))) (C := RX12) (T := TX12) (N := 85) hx hb hts hiX12 hown hK hP 0 wm0 rfl 47 (by decide) (hts _ (List.mem_cons_of_mem _ (wl_in_1 _ (List.mem_of_getElem? (i := 12) rfl)))) (fun _ h9 => h9) rfl dX12_key_28 ?_
      refine tp_i (y := iI (A 0 47)) (congrArg iI e_A9_47) ?_
      refine x_mulv (v := 4 * (A 0 47)) hx hb dX12_key_31 (by omega) ?_
      refine lv_aload_n hx hb dX12_key_32 rfl (lv_at hl 0 rfl) ?_
      refine va_get (D := (dC, dI)) (ci := 12) (v := .ref (q 11)) (C := RX12) (T := TX12) (N := 85) hx hb hts hiX12 hown hK hP 0 wm0 rfl 22 (by decide) (hts _ (List.mem_cons_of_mem _ (wl_in_1 _ (List.mem_of_getElem? (i := 14) rfl)))) (fun _ h9 => h9) rfl dX12_key_33 ?_
      refine lv_aload_n hx hb dX12_key_36 rfl (lv_at hl 0 rfl) ?_
      refine va_get (D := (dC, dI)) (ci := 12) (v := .int (iI (A9 0 47))) (C := RX12) (T := TX12) (N := 85) hx hb hts hiX12 hown hK hP 0 wm0 rfl 47 (by decide) (hts _ (List.mem_cons_of_mem _ (wl_in_1 _ (List.mem_of_getElem? (i := 12) rfl)))) (fun _ h9 => h9) rfl dX12_key_37 ?_
      refine tp_i (y := iI (A 0 47)) (congrArg iI e_A9_47) ?_
      have a_A9_11 : A9 11 = A 11 := (hf11.1 11 (by decide) rfl)
      refine x_iald hx hb hK hP 11 1 wm11 rfl (by omega) (by decide) dX12_key_40 (fun z13 hz13 => ?_)
      have rz13 : (0 : Int) ≤ z13 ∧ z13 ≤ 4 := by rw [hz13]; exact hI 11 _
      have hz13 : z13 = A 11 ((A 0 47)).toNat := hz13.trans (congrFun a_A9_11 _)
      have ez13 : z13 = z1 := hz13.trans hz1.symm
      refine x_addv (v := 4 * (A 0 47) + z13) hx hb dX12_key_41 (by omega) ?_
      refine lv_istore_n (lv' := [(1, .int (iI (4 * (A 0 47) + z13))), (0, .ref (q 0))]) hx hb dX12_key_42 rfl hl (by decide) rfl (fun ls hl => ?_)
      refine lv_aload_n hx hb dX12_key_43 rfl (lv_at hl 1 rfl) ?_
      refine va_get (D := (dC, dI)) (ci := 12) (v := .ref (q 12)) (C := RX12) (T := TX12) (N := 85) hx hb hts hiX12 hown hK hP 0 wm0 rfl 23 (by decide) (hts _ (List.mem_cons_of_mem _ (wl_in_1 _ (List.mem_of_getElem? (i := 23) rfl)))) (fun _ h9 => h9) rfl dX12_key_44 ?_
      refine lv_iload_n hx hb dX12_key_47 rfl (lv_at hl 0 rfl) ?_
      refine lv_aload_n hx hb dX12_key_48 rfl (lv_at hl 1 rfl) ?_
      refine x_calll (As := []) (rest := [.int (iI (4 * (A 0 47) + z13)), .ref (q 12)]) ⟨hx, hb, hml, hown, hts⟩ (mc_X12_fresh l dC dI cB cI cJ cZ cQ q _ hI) (cwV 0 hts (goodV (wl_in_2 _ (List.mem_of_getElem? (i := 35) rfl)) (wl_in_2 _ (List.mem_of_getElem? (i := 36) rfl)) (wl_in_2 _ (List.mem_of_getElem? (i := 37) rfl)) (wl_in_0 _ (List.mem_of_getElem? (i := 8) rfl)) (wl_in_2 _ (List.mem_of_getElem? (i := 22) rfl))) rfl rfl rfl (by decide +kernel) ⟨Nat.le_of_ble_eq_true rfl, Nat.le_of_ble_eq_true rfl⟩) hK hDD hA0 hP hS 0 12 wm0 rfl rfl hl.1 (Nat.le_of_ble_eq_true rfl) dX12_key_49 (fun z14 A15 H locs hw16 hP hS => ?_)
      obtain ⟨hI, hf17, hw16⟩ := hw16
      refine x_last hx hb hK hP hDD hS 12 2 wm12 rfl (by omega) (by decide) dX12_key_52 ws12 (fun H locs hP hS => ?_)
      have hI := hI.st (j := 12) (i := (4 * (A 0 47) + z13).toNat) (v := z14) (show (-9223372036854775808 : Int) ≤ z14 ∧ z14 ≤ 9223372036854775807 from (by omega))
      refine lv_aload_n hx hb dX12_key_53 rfl (lv_at hl 1 rfl) ?_
      refine va_get (D := (dC, dI)) (ci := 12) (v := .ref (q 13)) (C := RX12) (T := TX12) (N := 85) hx hb hts hiX12 hown hK hP 0 wm0 rfl 24 (by decide) (hts _ (List.mem_cons_of_mem _ (wl_in_2 _ (List.mem_of_getElem? (i := 58) rfl)))) (fun _ h9 => h9) rfl dX12_key_54 ?_
      refine lv_iload_n hx hb dX12_key_57 rfl (lv_at hl 0 rfl) ?_
      refine lv_aload_n hx hb dX12_key_58 rfl (lv_at hl 1 rfl) ?_
      obtain ⟨A18, hA18⟩ : ∃ A18 : St, A18 = (stA A15 12 (4 * (A 0 47) + z13).toNat z14) := ⟨_, rfl⟩
      rw [← hA18] at hP hI
      refine x_calli (As := []) (rest := [.int (iI (4 * (A 0 47) + z13)), .ref (q 13)]) ⟨hx, hb, hml, hown, hts⟩ (mc_X12_within l dC dI cB cI cJ cZ cQ q _ hI) (cwV 0 hts (goodV (wl_in_3 _ (List.mem_of_getElem? (i := 0) rfl)) (wl_in_3 _ (List.mem_of_getElem? (i := 1) rfl)) (wl_in_3 _ (List.mem_of_getElem? (i := 2) rfl)) (wl_in_0 _ (List.mem_of_getElem? (i := 8) rfl)) (wl_in_2 _ (List.mem_of_getElem? (i := 56) rfl))) rfl rfl rfl (by decide +kernel) ⟨Nat.le_of_ble_eq_true rfl, Nat.le_of_ble_eq_true rfl⟩) hK hDD hA0 hP hS 0 12 wm0 rfl rfl hl.1 (Nat.le_of_ble_eq_true rfl) dX12_key_59 (fun z19 A20 H locs hw21 hP hS => ?_)
      obtain ⟨hI, hf22, hw21⟩ := hw21
      refine x_iast hx hb hK hP hDD hS 13 1 wm13 rfl (by omega) (by decide) dX12_key_62 ws13 (fun H locs hP hS => ?_)
      have hI := hI.st (j := 13) (i := (4 * (A 0 47) + z13).toNat) (v := z19) (show (0 : Int) ≤ z19 ∧ z19 ≤ 40 from (by omega))
      refine lv_aload_n hx hb dX12_key_63 rfl (lv_at hl 1 rfl) ?_
      refine va_get (D := (dC, dI)) (ci := 12) (v := .ref (q 14)) (C := RX12) (T := TX12) (N := 85) hx hb hts hiX12 hown hK hP 0 wm0 rfl 25 (by decide) (hts _ (List.mem_cons_of_mem _ (wl_in_2 _ (List.mem_of_getElem? (i := 59) rfl)))) (fun _ h9 => h9) rfl dX12_key_64 ?_
      refine lv_iload_n hx hb dX12_key_67 rfl (lv_at hl 0 rfl) ?_
      refine lv_iconst (v := iI 0) hx hb dX12_key_68 (by decide +kernel) ?_
      refine x_iast hx hb hK hP hDD hS 14 1 wm14 rfl (by omega) (by decide) dX12_key_69 ws14 (fun H locs hP hS => ?_)
      have hI := hI.st (j := 14) (i := (4 * (A 0 47) + z13).toNat) (v := 0) (show (0 : Int) ≤ 0 ∧ 0 ≤ 6 from (by omega))
      refine lv_aload_n hx hb dX12_key_70 rfl (lv_at hl 1 rfl) ?_
      refine va_get (D := (dC, dI)) (ci := 12) (v := .int (iI (A20 0 8))) (C := RX12) (T := TX12) (N := 85) hx hb hts hiX12 hown hK hP 0 wm0 rfl 8 (by decide) (hts _ (List.mem_cons_of_mem _ (wl_in_0 _ (List.mem_of_getElem? (i := 16) rfl)))) (fun _ h9 => h9) rfl dX12_key_71 ?_
      have r_A20_0_8 : (0 : Int) ≤ (A20 0 8) ∧ (A20 0 8) ≤ 5 := hI 0 8
      refine lv_if_ne (tgt := 90) hx hb dX12_key_74 (by decide) (fun c23 => ?_) (fun c23 => ?_)
      · have c23 : ¬ (A20 0 8) = 0 := mt (i_eq0 (rb r_A20_0_8 (by decide) (by decide))).mpr c23
        exact RET _ _ _ _ _ ⟨hI, fr.st (fr.st (fr.trans (fr_def hA18 (fr.st (fr.trans (fr.trans (fr.rf) hf11 rfl rfl) hf17 rfl rfl) (by decide) rfl)) hf22 rfl rfl) (by decide) rfl) (by decide) rfl, trivial⟩ hP hS dX12_key_90
      · have c23 : (A20 0 8) = 0 := (i_eq0 (rb r_A20_0_8 (by decide) (by decide))).mp c23
        refine lv_aload_n hx hb dX12_key_77 rfl (lv_at hl 1 rfl) ?_
        refine va_get (D := (dC, dI)) (ci := 12) (v := .ref (q 11)) (C := RX12) (T := TX12) (N := 85) hx hb hts hiX12 hown hK hP 0 wm0 rfl 22 (by decide) (hts _ (List.mem_cons_of_mem _ (wl_in_1 _ (List.mem_of_getElem? (i := 14) rfl)))) (fun _ h9 => h9) rfl dX12_key_78 ?_
        refine lv_aload_n hx hb dX12_key_81 rfl (lv_at hl 1 rfl) ?_
        have e_A15_47 : A15 0 47 = (A 0 47) := (hf17.2 47 rfl).trans e_A9_47
        have e_A18_47 : A18 0 47 = (A 0 47) := by rw [hA18]; exact e_A15_47
        have e_A20_47 : A20 0 47 = (A 0 47) := (hf22.2 47 rfl).trans e_A18_47
        refine va_get (D := (dC, dI)) (ci := 12) (v := .int (iI (A20 0 47))) (C := RX12) (T := TX12) (N := 85) hx hb hts hiX12 hown hK hP 0 wm0 rfl 47 (by decide) (hts _ (List.mem_cons_of_mem _ (wl_in_1 _ (List.mem_of_getElem? (i := 12) rfl)))) (fun _ h9 => h9) rfl dX12_key_82 ?_
        refine tp_i (y := iI (A 0 47)) (congrArg iI e_A20_47) ?_
        refine lv_dup2_11 hx hb dX12_key_85 rfl rfl ?_
        have a_A15_11 : A15 11 = A 11 := (hf17.1 11 (by decide) rfl).trans a_A9_11
        have a_A18_11 : A18 11 = A 11 := by rw [hA18]; exact a_A15_11
        have a_A20_11 : A20 11 = A 11 := (hf22.1 11 (by decide) rfl).trans a_A18_11
        refine x_iald hx hb hK hP 11 1 wm11 rfl (by omega) (by decide) dX12_key_86 (fun z24 hz24 => ?_)
        have rz24 : (0 : Int) ≤ z24 ∧ z24 ≤ 4 := by rw [hz24]; exact hI 11 _
        have hz24 : z24 = A 11 ((A 0 47)).toNat := hz24.trans (congrFun a_A20_11 _)
        have ez24 : z24 = z1 := hz24.trans hz1.symm
        refine lv_iconst (v := iI 1) hx hb dX12_key_87 (by decide +kernel) ?_
        refine x_addv (v := z24 + 1) hx hb dX12_key_88 (by omega) ?_
        refine x_iast hx hb hK hP hDD hS 11 1 wm11 rfl (by omega) (by decide) dX12_key_89 ws11 (fun H locs hP hS => ?_)
        have hI := hI.st (j := 11) (i := ((A 0 47)).toNat) (v := z24 + 1) (show (0 : Int) ≤ z24 + 1 ∧ z24 + 1 ≤ 4 from (by omega))
        exact RET _ _ _ _ _ ⟨hI, fr.st (fr.st (fr.st (fr.trans (fr_def hA18 (fr.st (fr.trans (fr.trans (fr.rf) hf11 rfl rfl) hf17 rfl rfl) (by decide) rfl)) hf22 rfl rfl) (by decide) rfl) (by decide) rfl) (by decide) rfl, trivial⟩ hP hS dX12_key_90
    · have c12 : z8 = 0 := (i_eq0 (rb rz8 (by decide) (by decide))).mp c12
      exact RET _ _ _ _ _ ⟨hI, fr.trans (fr.rf) hf11 rfl rfl, trivial⟩ hP hS dX12_key_25
  refine lv_icmp_ne (tgt := 18) hx hb dX12_key_11 (by decide) (fun c2 => ?_) (fun c2 => ?_)
  · have c2 : ¬ z1 = 4 := mt (i_eq (rb rz1 (by decide) (by decide)) ⟨by decide, by decide⟩).mpr c2
    refine lv_iconst (v := iI 0) hx hb dX12_key_18 (by decide +kernel) ?_
    exact J19_3 0 _ _ _ (by omega) (by omega) hP hS (lv_sub hl [0] rfl)
  · have c2 : z1 = 4 := (i_eq (rb rz1 (by decide) (by decide)) ⟨by decide, by decide⟩).mp c2
    refine lv_iconst (v := iI 1) hx hb dX12_key_14 (by decide +kernel) ?_
    refine lv_goto (tgt := 19) hx hb dX12_key_15 (by decide) ?_
    exact J19_3 1 _ _ _ (by omega) (by omega) hP hS (lv_sub hl [0] rfl)
