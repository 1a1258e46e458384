def ws_mc_X12_mustBe : List Cond := .code yX12_mustBe cX12_mustBe 2 none :: WX
set_option maxHeartbeats 4000000 in
set_option maxRecDepth 100000 in
theorem mc_X12_mustBe (l : Launch) (dC : Nat → ClassId) (dI : Nat → Nat → Nat) (cB cI cJ cZ cQ : ClassId) (q : Nat → Nat) (A : St) (hI : IM A) : XMv l yX12_mustBe ws_mc_X12_mustBe ({ frames := 3, cells := 0, slots := 0, locals := 70 } : Room) (dC, dI) (tyA cB cI cJ cZ cQ) (WM cI cJ cZ q) A [.ref (q 0)] (fun u => IM u ∧ fr [25, 26, 27, 28] [3, 4, 5, 6, 7, 8, 9] A u ∧ (True)) := by
  refine x_metv (cc := cX12_mustBe) (maxL := 2) WM_adr (by decide +kernel) rfl (Nat.le_of_ble_eq_true rfl) (fun p e s m below meth c Q AS ls hx hb hml hown hts hK hDD hA0 hP hS hl RET => ?_)
  have hown : s.vm.findClass RX12 = some m.cls := hown
  have hl : lv_has ls 2 [(0, .ref (q 0))] := hl
  have hiX12 : ∀ w ∈ u_ws RX12 TX12 85, w ∈ ws_mc_X12_mustBe := fun w h => List.mem_cons_of_mem _ (wx_lay w h)
  obtain ⟨H, hHe⟩ : ∃ H : Heap, H = s.heap := ⟨_, rfl⟩
  rw [← hHe] at hP
  have hS : va_S AS s.heap H [] := by rw [hHe]; exact hS
  suffices hgo : ∀ locs : List Loc, va_S AS s.heap H locs → W p l e (headSpec ws_mc_X12_mustBe ({ frames := 3, cells := 0, slots := 0, locals := 70 } : Room)).room s m [.ref (q 0)].toArray below meth c H locs 0 0 Q (F0 m 0 ls []) by
    have := hgo [] hS
    rw [hHe] at this
    exact this
  clear hS hHe
  intro locs hS
  refine lv_aload_n hx hb dX12_mustBe_0 rfl (lv_at hl 0 rfl) ?_
  refine lv_aload_n hx hb dX12_mustBe_1 rfl (lv_at hl 0 rfl) ?_
  refine va_get (D := (dC, dI)) (ci := 12) (v := .ref (q 25)) (C := RX12) (T := TX12) (N := 85) hx hb hts hiX12 hown hK hP 0 wm0 rfl 36 (by decide) (hts _ (List.mem_cons_of_mem _ (wl_in_3 _ (List.mem_of_getElem? (i := 20) rfl)))) (fun _ h9 => h9) rfl dX12_mustBe_2 ?_
  refine lv_aload_n hx hb dX12_mustBe_5 rfl (lv_at hl 0 rfl) ?_
  refine va_get (D := (dC, dI)) (ci := 12) (v := .int (iI (A 0 47))) (C := RX12) (T := TX12) (N := 85) hx hb hts hiX12 hown hK hP 0 wm0 rfl 47 (by decide) (hts _ (List.mem_cons_of_mem _ (wl_in_1 _ (List.mem_of_getElem? (i := 12) rfl)))) (fun _ h9 => h9) rfl dX12_mustBe_6 ?_
  have r_A_0_47 : (0 : Int) ≤ (A 0 47) ∧ (A 0 47) ≤ 1 := hI 0 47
  refine x_iald hx hb hK hP 25 1 wm25 rfl (by omega) (by decide) dX12_mustBe_9 (fun z1 hz1 => ?_)
  have rz1 : (0 : Int) ≤ z1 ∧ z1 ≤ 6 := by rw [hz1]; exact hI 25 _
  have hz1 : z1 = A 25 ((A 0 47)).toNat := hz1
  refine lv_bipush (v := iI 6) hx hb dX12_mustBe_10 (by decide +kernel) ?_
  have J20_3 : ∀ (z4 : Int) (H : Heap) (locs : List Loc) (ls : Array Slot), (0 ≤ z4 ∧ z4 ≤ 1) → ((z4 = 0 ∧ ¬ z1 = 6) ∨ (z4 = 1 ∧ z1 = 6)) → va_P (dC, dI) vwCl (WM cI cJ cZ q A) H → va_S AS s.heap H locs → lv_has ls 2 [(0, .ref (q 0))] → W p l e (headSpec ws_mc_X12_mustBe ({ frames := 3, cells := 0, slots := 0, locals := 70 } : Room)).room s m [.ref (q 0)].toArray below meth c H locs 0 0 Q (F0 m 20 ls [.int (iI z4), .ref (q 0)]) := by
    intro z4 H locs ls f6 f7 hP hS hl
    refine x_calli (As := [.int (iI z4)]) (rest := []) ⟨hx, hb, hml, hown, hts⟩ (mc_X12_counts l dC dI cB cI cJ cZ cQ q _ z4 hI f6) (cwV 1 hts (goodV (wl_in_2 _ (List.mem_of_getElem? (i := 32) rfl)) (wl_in_2 _ (List.mem_of_getElem? (i := 33) rfl)) (wl_in_2 _ (List.mem_of_getElem? (i := 34) rfl)) (wl_in_0 _ (List.mem_of_getElem? (i := 8) rfl)) (wl_in_2 _ (List.mem_of_getElem? (i := 20) rfl))) rfl rfl rfl (by decide +kernel) ⟨Nat.le_of_ble_eq_true rfl, Nat.le_of_ble_eq_true rfl⟩) hK hDD hA0 hP hS 0 12 wm0 rfl rfl hl.1 (Nat.le_of_ble_eq_true rfl) dX12_mustBe_20 (fun z8 A9 H locs hw10 hP hS => ?_)
    obtain ⟨hI, hf11, hw10⟩ := hw10
    have r_A9_0_8 : (0 : Int) ≤ (A9 0 8) ∧ (A9 0 8) ≤ 5 := hI 0 8
    have rz8 : 0 ≤ z8 ∧ z8 ≤ 1 := hw10.1
    refine lv_if_ne (tgt := 27) hx hb dX12_mustBe_23 (by decide) (fun c12 => ?_) (fun c12 => ?_)
    · have c12 : ¬ z8 = 0 := mt (i_eq0 (rb rz8 (by decide) (by decide))).mpr c12
      refine lv_bipush (v := iI 6) hx hb dX12_mustBe_27 (by decide +kernel) ?_
      refine lv_aload_n hx hb dX12_mustBe_29 rfl (lv_at hl 0 rfl) ?_
      have e_A9_47 : A9 0 47 = (A 0 47) := (hf11.2 47 rfl)
      refine va_get (D := (dC, dI)) (ci := 12) (v := .int (iI (A9 0 47))) (C := RX12) (T := TX12) (N := 85) hx hb hts hiX12 hown hK hP 0 wm0 rfl 47 (by decide) (hts _ (List.mem_cons_of_mem _ (wl_in_1 _ (List.mem_of_getElem? (i := 12) rfl)))) (fun _ h9 => h9) rfl dX12_mustBe_30 ?_
      refine tp_i (y := iI (A 0 47)) (congrArg iI e_A9_47) ?_
      refine x_mulv (v := 6 * (A 0 47)) hx hb dX12_mustBe_33 (by omega) ?_
      refine lv_aload_n hx hb dX12_mustBe_34 rfl (lv_at hl 0 rfl) ?_
      refine va_get (D := (dC, dI)) (ci := 12) (v := .ref (q 25)) (C := RX12) (T := TX12) (N := 85) hx hb hts hiX12 hown hK hP 0 wm0 rfl 36 (by decide) (hts _ (List.mem_cons_of_mem _ (wl_in_3 _ (List.mem_of_getElem? (i := 20) rfl)))) (fun _ h9 => h9) rfl dX12_mustBe_35 ?_
      refine lv_aload_n hx hb dX12_mustBe_38 rfl (lv_at hl 0 rfl) ?_
      refine va_get (D := (dC, dI)) (ci := 12) (v := .int (iI (A9 0 47))) (C := RX12) (T := TX12) (N := 85) hx hb hts hiX12 hown hK hP 0 wm0 rfl 47 (by decide) (hts _ (List.mem_cons_of_mem _ (wl_in_1 _ (List.mem_of_getElem? (i := 12) rfl)))) (fun _ h9 => h9) rfl dX12_mustBe_39 ?_
      refine tp_i (y := iI (A 0 47)) (congrArg iI e_A9_47) ?_
      have a_A9_25 : A9 25 = A 25 := (hf11.1 25 (by decide) rfl)
      refine x_iald hx hb hK hP 25 1 wm25 rfl (by omega) (by decide) dX12_mustBe_42 (fun z13 hz13 => ?_)
      have rz13 : (0 : Int) ≤ z13 ∧ z13 ≤ 6 := by rw [hz13]; exact hI 25 _
      have hz13 : z13 = A 25 ((A 0 47)).toNat := hz13.trans (congrFun a_A9_25 _)
      have ez13 : z13 = z1 := hz13.trans hz1.symm
      refine x_addv (v := 6 * (A 0 47) + z13) hx hb dX12_mustBe_43 (by omega) ?_
      refine lv_istore_n (lv' := [(1, .int (iI (6 * (A 0 47) + z13))), (0, .ref (q 0))]) hx hb dX12_mustBe_44 rfl hl (by decide) rfl (fun ls hl => ?_)
      refine lv_aload_n hx hb dX12_mustBe_45 rfl (lv_at hl 1 rfl) ?_
      refine va_get (D := (dC, dI)) (ci := 12) (v := .ref (q 26)) (C := RX12) (T := TX12) (N := 85) hx hb hts hiX12 hown hK hP 0 wm0 rfl 37 (by decide) (hts _ (List.mem_cons_of_mem _ (wl_in_3 _ (List.mem_of_getElem? (i := 21) rfl)))) (fun _ h9 => h9) rfl dX12_mustBe_46 ?_
      refine lv_iload_n hx hb dX12_mustBe_49 rfl (lv_at hl 0 rfl) ?_
      refine lv_aload_n hx hb dX12_mustBe_50 rfl (lv_at hl 1 rfl) ?_
      refine lv_iconst (v := iI 1) hx hb dX12_mustBe_51 (by decide +kernel) ?_
      refine x_calli (As := [.int (iI 1)]) (rest := [.int (iI (6 * (A 0 47) + z13)), .ref (q 26)]) ⟨hx, hb, hml, hown, hts⟩ (mc_X12_asked l dC dI cB cI cJ cZ cQ q _ 1 hI ⟨by decide, by decide⟩) (cwV 1 hts (goodV (wl_in_2 _ (List.mem_of_getElem? (i := 47) rfl)) (wl_in_2 _ (List.mem_of_getElem? (i := 48) rfl)) (wl_in_2 _ (List.mem_of_getElem? (i := 49) rfl)) (wl_in_0 _ (List.mem_of_getElem? (i := 8) rfl)) (wl_in_2 _ (List.mem_of_getElem? (i := 29) rfl))) rfl rfl rfl (by decide +kernel) ⟨Nat.le_of_ble_eq_true rfl, Nat.le_of_ble_eq_true rfl⟩) hK hDD hA0 hP hS 0 12 wm0 rfl rfl hl.1 (Nat.le_of_ble_eq_true rfl) dX12_mustBe_52 (fun z14 A15 H locs hw16 hP hS => ?_)
      obtain ⟨hI, hf17, hw16⟩ := hw16
      have hw16 : 0 ≤ z14 ∧ z14 ≤ 9 := ⟨hw16.1, hw16.2.1⟩
      refine x_iast hx hb hK hP hDD hS 26 1 wm26 rfl (by omega) (by decide) dX12_mustBe_55 ws26 (fun H locs hP hS => ?_)
      have hI := hI.st (j := 26) (i := (6 * (A 0 47) + z13).toNat) (v := z14) (show (0 : Int) ≤ z14 ∧ z14 ≤ 9 from (by omega))
      refine lv_aload_n hx hb dX12_mustBe_56 rfl (lv_at hl 1 rfl) ?_
      refine va_get (D := (dC, dI)) (ci := 12) (v := .ref (q 27)) (C := RX12) (T := TX12) (N := 85) hx hb hts hiX12 hown hK hP 0 wm0 rfl 38 (by decide) (hts _ (List.mem_cons_of_mem _ (wl_in_3 _ (List.mem_of_getElem? (i := 22) rfl)))) (fun _ h9 => h9) rfl dX12_mustBe_57 ?_
      refine lv_iload_n hx hb dX12_mustBe_60 rfl (lv_at hl 0 rfl) ?_
      refine lv_aload_n hx hb dX12_mustBe_61 rfl (lv_at hl 1 rfl) ?_
      refine lv_iconst (v := iI 0) hx hb dX12_mustBe_62 (by decide +kernel) ?_
      refine lv_sipush (v := iI 1439) hx hb dX12_mustBe_63 (by decide +kernel) ?_
      obtain ⟨A18, hA18⟩ : ∃ A18 : St, A18 = (stA A15 26 (6 * (A 0 47) + z13).toNat z14) := ⟨_, rfl⟩
      rw [← hA18] at hP hI
      refine x_calli (As := [.int (iI 0), .int (iI 1439)]) (rest := [.int (iI (6 * (A 0 47) + z13)), .ref (q 27)]) ⟨hx, hb, hml, hown, hts⟩ (mc_X12_number l dC dI cB cI cJ cZ cQ q _ 0 1439 hI ⟨by decide, by decide⟩ ⟨by decide, by decide⟩) (cwV 2 hts (goodV (wl_in_2 _ (List.mem_of_getElem? (i := 53) rfl)) (wl_in_2 _ (List.mem_of_getElem? (i := 54) rfl)) (wl_in_2 _ (List.mem_of_getElem? (i := 55) rfl)) (wl_in_0 _ (List.mem_of_getElem? (i := 8) rfl)) (wl_in_1 _ (List.mem_of_getElem? (i := 26) rfl))) rfl rfl rfl (by decide +kernel) ⟨Nat.le_of_ble_eq_true rfl, Nat.le_of_ble_eq_true rfl⟩) hK hDD hA0 hP hS 0 12 wm0 rfl rfl hl.1 (Nat.le_of_ble_eq_true rfl) dX12_mustBe_66 (fun z19 A20 H locs hw21 hP hS => ?_)
      obtain ⟨hI, hf22, hw21⟩ := hw21
      refine x_iast hx hb hK hP hDD hS 27 1 wm27 rfl (by omega) (by decide) dX12_mustBe_69 ws27 (fun H locs hP hS => ?_)
      have hI := hI.st (j := 27) (i := (6 * (A 0 47) + z13).toNat) (v := z19) (show (-2147483648 : Int) ≤ z19 ∧ z19 ≤ 2147483647 from (by omega))
      refine lv_aload_n hx hb dX12_mustBe_70 rfl (lv_at hl 1 rfl) ?_
      refine va_get (D := (dC, dI)) (ci := 12) (v := .ref (q 28)) (C := RX12) (T := TX12) (N := 85) hx hb hts hiX12 hown hK hP 0 wm0 rfl 39 (by decide) (hts _ (List.mem_cons_of_mem _ (wl_in_3 _ (List.mem_of_getElem? (i := 23) rfl)))) (fun _ h9 => h9) rfl dX12_mustBe_71 ?_
      refine lv_iload_n hx hb dX12_mustBe_74 rfl (lv_at hl 0 rfl) ?_
      refine lv_aload_n hx hb dX12_mustBe_75 rfl (lv_at hl 1 rfl) ?_
      refine lv_aload_n hx hb dX12_mustBe_76 rfl (lv_at hl 1 rfl) ?_
      refine va_get (D := (dC, dI)) (ci := 12) (v := .ref (q 27)) (C := RX12) (T := TX12) (N := 85) hx hb hts hiX12 hown hK hP 0 wm0 rfl 38 (by decide) (hts _ (List.mem_cons_of_mem _ (wl_in_3 _ (List.mem_of_getElem? (i := 22) rfl)))) (fun _ h9 => h9) rfl dX12_mustBe_77 ?_
      refine lv_iload_n hx hb dX12_mustBe_80 rfl (lv_at hl 0 rfl) ?_
      refine x_iald hx hb hK hP 27 1 wm27 rfl (by omega) (by decide) dX12_mustBe_81 (fun z23 hz23 => ?_)
      have rz23 : (-2147483648 : Int) ≤ z23 ∧ z23 ≤ 2147483647 := by rw [hz23]; exact hI 27 _
      have ez23 : z23 = z19 := by rw [hz23]; simp [stA, up]
      clear hz23
      refine lv_sipush (v := iI 1439) hx hb dX12_mustBe_82 (by decide +kernel) ?_
      obtain ⟨A24, hA24⟩ : ∃ A24 : St, A24 = (stA A20 27 (6 * (A 0 47) + z13).toNat z19) := ⟨_, rfl⟩
      rw [← hA24] at hP hI
      refine x_calli (As := [.int (iI z23), .int (iI 1439)]) (rest := [.int (iI (6 * (A 0 47) + z13)), .ref (q 28)]) ⟨hx, hb, hml, hown, hts⟩ (mc_X12_number l dC dI cB cI cJ cZ cQ q _ z23 1439 hI rz23 ⟨by decide, by decide⟩) (cwV 2 hts (goodV (wl_in_2 _ (List.mem_of_getElem? (i := 53) rfl)) (wl_in_2 _ (List.mem_of_getElem? (i := 54) rfl)) (wl_in_2 _ (List.mem_of_getElem? (i := 55) rfl)) (wl_in_0 _ (List.mem_of_getElem? (i := 8) rfl)) (wl_in_1 _ (List.mem_of_getElem? (i := 26) rfl))) rfl rfl rfl (by decide +kernel) ⟨Nat.le_of_ble_eq_true rfl, Nat.le_of_ble_eq_true rfl⟩) hK hDD hA0 hP hS 0 12 wm0 rfl rfl hl.1 (Nat.le_of_ble_eq_true rfl) dX12_mustBe_85 (fun z25 A26 H locs hw27 hP hS => ?_)
      obtain ⟨hI, hf28, hw27⟩ := hw27
      refine x_iast hx hb hK hP hDD hS 28 1 wm28 rfl (by omega) (by decide) dX12_mustBe_88 ws28 (fun H locs hP hS => ?_)
      have hI := hI.st (j := 28) (i := (6 * (A 0 47) + z13).toNat) (v := z25) (show (-2147483648 : Int) ≤ z25 ∧ z25 ≤ 2147483647 from (by omega))
      refine lv_aload_n hx hb dX12_mustBe_89 rfl (lv_at hl 1 rfl) ?_
      refine va_get (D := (dC, dI)) (ci := 12) (v := .int (iI (A26 0 8))) (C := RX12) (T := TX12) (N := 85) hx hb hts hiX12 hown hK hP 0 wm0 rfl 8 (by decide) (hts _ (List.mem_cons_of_mem _ (wl_in_0 _ (List.mem_of_getElem? (i := 16) rfl)))) (fun _ h9 => h9) rfl dX12_mustBe_90 ?_
      have r_A26_0_8 : (0 : Int) ≤ (A26 0 8) ∧ (A26 0 8) ≤ 5 := hI 0 8
      refine lv_if_ne (tgt := 109) hx hb dX12_mustBe_93 (by decide) (fun c29 => ?_) (fun c29 => ?_)
      · have c29 : ¬ (A26 0 8) = 0 := mt (i_eq0 (rb r_A26_0_8 (by decide) (by decide))).mpr c29
        exact RET _ _ _ _ _ ⟨hI, fr.st (fr.trans (fr_def hA24 (fr.st (fr.trans (fr_def hA18 (fr.st (fr.trans (fr.trans (fr.rf) hf11 rfl rfl) hf17 rfl rfl) (by decide) rfl)) hf22 rfl rfl) (by decide) rfl)) hf28 rfl rfl) (by decide) rfl, trivial⟩ hP hS dX12_mustBe_109
      · have c29 : (A26 0 8) = 0 := (i_eq0 (rb r_A26_0_8 (by decide) (by decide))).mp c29
        refine lv_aload_n hx hb dX12_mustBe_96 rfl (lv_at hl 1 rfl) ?_
        refine va_get (D := (dC, dI)) (ci := 12) (v := .ref (q 25)) (C := RX12) (T := TX12) (N := 85) hx hb hts hiX12 hown hK hP 0 wm0 rfl 36 (by decide) (hts _ (List.mem_cons_of_mem _ (wl_in_3 _ (List.mem_of_getElem? (i := 20) rfl)))) (fun _ h9 => h9) rfl dX12_mustBe_97 ?_
        refine lv_aload_n hx hb dX12_mustBe_100 rfl (lv_at hl 1 rfl) ?_
        have e_A15_47 : A15 0 47 = (A 0 47) := (hf17.2 47 rfl).trans e_A9_47
        have e_A18_47 : A18 0 47 = (A 0 47) := by rw [hA18]; exact e_A15_47
        have e_A20_47 : A20 0 47 = (A 0 47) := (hf22.2 47 rfl).trans e_A18_47
        have e_A24_47 : A24 0 47 = (A 0 47) := by rw [hA24]; exact e_A20_47
        have e_A26_47 : A26 0 47 = (A 0 47) := (hf28.2 47 rfl).trans e_A24_47
        refine va_get (D := (dC, dI)) (ci := 12) (v := .int (iI (A26 0 47))) (C := RX12) (T := TX12) (N := 85) hx hb hts hiX12 hown hK hP 0 wm0 rfl 47 (by decide) (hts _ (List.mem_cons_of_mem _ (wl_in_1 _ (List.mem_of_getElem? (i := 12) rfl)))) (fun _ h9 => h9) rfl dX12_mustBe_101 ?_
        refine tp_i (y := iI (A 0 47)) (congrArg iI e_A26_47) ?_
        refine lv_dup2_11 hx hb dX12_mustBe_104 rfl rfl ?_
        have a_A15_25 : A15 25 = A 25 := (hf17.1 25 (by decide) rfl).trans a_A9_25
        have a_A18_25 : A18 25 = A 25 := by rw [hA18]; exact a_A15_25
        have a_A20_25 : A20 25 = A 25 := (hf22.1 25 (by decide) rfl).trans a_A18_25
        have a_A24_25 : A24 25 = A 25 := by rw [hA24]; exact a_A20_25
        have a_A26_25 : A26 25 = A 25 := (hf28.1 25 (by decide) rfl).trans a_A24_25
        refine x_iald hx hb hK hP 25 1 wm25 rfl (by omega) (by decide) dX12_mustBe_105 (fun z30 hz30 => ?_)
        have rz30 : (0 : Int) ≤ z30 ∧ z30 ≤ 6 := by rw [hz30]; exact hI 25 _
        have hz30 : z30 = A 25 ((A 0 47)).toNat := hz30.trans (congrFun a_A26_25 _)
        have ez30 : z30 = z1 := hz30.trans hz1.symm
        refine lv_iconst (v := iI 1) hx hb dX12_mustBe_106 (by decide +kernel) ?_
        refine x_addv (v := z30 + 1) hx hb dX12_mustBe_107 (by omega) ?_
        refine x_iast hx hb hK hP hDD hS 25 1 wm25 rfl (by omega) (by decide) dX12_mustBe_108 ws25 (fun H locs hP hS => ?_)
        have hI := hI.st (j := 25) (i := ((A 0 47)).toNat) (v := z30 + 1) (show (0 : Int) ≤ z30 + 1 ∧ z30 + 1 ≤ 6 from (by omega))
        exact RET _ _ _ _ _ ⟨hI, fr.st (fr.st (fr.trans (fr_def hA24 (fr.st (fr.trans (fr_def hA18 (fr.st (fr.trans (fr.trans (fr.rf) hf11 rfl rfl) hf17 rfl rfl) (by decide) rfl)) hf22 rfl rfl) (by decide) rfl)) hf28 rfl rfl) (by decide) rfl) (by decide) rfl, trivial⟩ hP hS dX12_mustBe_109
    · have c12 : z8 = 0 := (i_eq0 (rb rz8 (by decide) (by decide))).mp c12
      exact RET _ _ _ _ _ ⟨hI, fr.trans (fr.rf) hf11 rfl rfl, trivial⟩ hP hS dX12_mustBe_26
  refine lv_icmp_ne (tgt := 19) hx hb dX12_mustBe_12 (by decide) (fun c2 => ?_) (fun c2 => ?_)
  · have c2 : ¬ z1 = 6 := mt (i_eq (rb rz1 (by decide) (by decide)) ⟨by decide, by decide⟩).mpr c2
    refine lv_iconst (v := iI 0) hx hb dX12_mustBe_19 (by decide +kernel) ?_
    exact J20_3 0 _ _ _ (by omega) (by omega) hP hS (lv_sub hl [0] rfl)
  · have c2 : z1 = 6 := (i_eq (rb rz1 (by decide) (by decide)) ⟨by decide, by decide⟩).mp c2
    refine lv_iconst (v := iI 1) hx hb dX12_mustBe_15 (by decide +kernel) ?_
    refine lv_goto (tgt := 20) hx hb dX12_mustBe_16 (by decide) ?_
    exact J20_3 1 _ _ _ (by omega) (by omega) hP hS (lv_sub hl [0] rfl)
