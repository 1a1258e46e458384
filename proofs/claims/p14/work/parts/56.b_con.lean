def ws_mc_X12_door : List Cond := .code yX12_door cX12_door 3 none :: WX
set_option maxHeartbeats 4000000 in
set_option maxRecDepth 100000 in
theorem mc_X12_door (l : Launch) (dC : Nat → ClassId) (dI : Nat → Nat → Nat) (cB cI cJ cZ cQ : ClassId) (q : Nat → Nat) (A : St) (x1 : Int) (hI : IM A) (hx1 : (0 : Int) ≤ x1 ∧ x1 ≤ 1) : XMv l yX12_door ws_mc_X12_door ({ frames := 3, cells := 0, slots := 0, locals := 70 } : Room) (dC, dI) (tyA cB cI cJ cZ cQ) (WM cI cJ cZ q) A [.ref (q 0), .int (iI x1)] (fun u => IM u ∧ fr [4, 5, 6, 7, 8, 9, 10] [3, 4, 5, 6, 7, 8, 9] A u ∧ (True)) := by
  refine x_metv (cc := cX12_door) (maxL := 3) WM_adr (by decide +kernel) rfl (Nat.le_of_ble_eq_true rfl) (fun p e s m below meth c Q AS ls hx hb hml hown hts hK hDD hA0 hP hS hl RET => ?_)
  have hown : s.vm.findClass RX12 = some m.cls := hown
  have hl : lv_has ls 3 [(0, .ref (q 0)), (1, .int (iI x1))] := hl
  have hiX12 : ∀ w ∈ u_ws RX12 TX12 85, w ∈ ws_mc_X12_door := fun w h => List.mem_cons_of_mem _ (wx_lay w h)
  obtain ⟨H, hHe⟩ : ∃ H : Heap, H = s.heap := ⟨_, rfl⟩
  rw [← hHe] at hP
  have hS : va_S AS s.heap H [] := by rw [hHe]; exact hS
  suffices hgo : ∀ locs : List Loc, va_S AS s.heap H locs → W p l e (headSpec ws_mc_X12_door ({ frames := 3, cells := 0, slots := 0, locals := 70 } : Room)).room s m [.ref (q 0), .int (iI x1)].toArray below meth c H locs 0 0 Q (F0 m 0 ls []) by
    have := hgo [] hS
    rw [hHe] at this
    exact this
  clear hS hHe
  intro locs hS
  rcases (show x1 = 0 ∨ x1 = 1 by omega) with rfl | rfl
  · have hl : lv_has ls 3 [(0, .ref (q 0)), (1, .int (iI 0))] := hl
    refine lv_aload_n hx hb dX12_door_0 rfl (lv_at hl 0 rfl) ?_
    refine lv_aload_n hx hb dX12_door_1 rfl (lv_at hl 0 rfl) ?_
    refine va_get (D := (dC, dI)) (ci := 12) (v := .ref (q 4)) (C := RX12) (T := TX12) (N := 85) hx hb hts hiX12 hown hK hP 0 wm0 rfl 15 (by decide) (hts _ (List.mem_cons_of_mem _ (wl_in_1 _ (List.mem_of_getElem? (i := 13) rfl)))) (fun _ h9 => h9) rfl dX12_door_2 ?_
    refine lv_aload_n hx hb dX12_door_5 rfl (lv_at hl 0 rfl) ?_
    refine va_get (D := (dC, dI)) (ci := 12) (v := .int (iI (A 0 47))) (C := RX12) (T := TX12) (N := 85) hx hb hts hiX12 hown hK hP 0 wm0 rfl 47 (by decide) (hts _ (List.mem_cons_of_mem _ (wl_in_1 _ (List.mem_of_getElem? (i := 12) rfl)))) (fun _ h9 => h9) rfl dX12_door_6 ?_
    have r_A_0_47 : (0 : Int) ≤ (A 0 47) ∧ (A 0 47) ≤ 1 := hI 0 47
    refine x_iald hx hb hK hP 4 1 wm4 rfl (by omega) (by decide) dX12_door_9 (fun z1 hz1 => ?_)
    have rz1 : (0 : Int) ≤ z1 ∧ z1 ≤ 10 := by rw [hz1]; exact hI 4 _
    have hz1 : z1 = A 4 ((A 0 47)).toNat := hz1
    refine lv_bipush (v := iI 10) hx hb dX12_door_10 (by decide +kernel) ?_
    have J20_3 : ∀ (z4 : Int) (H : Heap) (locs : List Loc) (ls : Array Slot), (0 ≤ z4 ∧ z4 ≤ 1) → ((z4 = 0 ∧ ¬ z1 = 10) ∨ (z4 = 1 ∧ z1 = 10)) → va_P (dC, dI) vwCl (WM cI cJ cZ q A) H → va_S AS s.heap H locs → lv_has ls 3 [(0, .ref (q 0)), (1, .int (iI 0))] → W p l e (headSpec ws_mc_X12_door ({ frames := 3, cells := 0, slots := 0, locals := 70 } : Room)).room s m [.ref (q 0), .int (iI 0)].toArray below meth c H locs 0 0 Q (F0 m 20 ls [.int (iI z4), .ref (q 0)]) := by
      intro z4 H locs ls f6 f7 hP hS hl
      refine x_calli (As := [.int (iI z4)]) (rest := []) ⟨hx, hb, hml, hown, hts⟩ (mc_X12_counts l dC dI cB cI cJ cZ cQ q _ z4 hI f6) (cwV 1 hts (goodV (wl_in_2 _ (List.mem_of_getElem? (i := 32) rfl)) (wl_in_2 _ (List.mem_of_getElem? (i := 33) rfl)) (wl_in_2 _ (List.mem_of_getElem? (i := 34) rfl)) (wl_in_0 _ (List.mem_of_getElem? (i := 8) rfl)) (wl_in_2 _ (List.mem_of_getElem? (i := 20) rfl))) rfl rfl rfl (by decide +kernel) ⟨Nat.le_of_ble_eq_true rfl, Nat.le_of_ble_eq_true rfl⟩) hK hDD hA0 hP hS 0 12 wm0 rfl rfl hl.1 (Nat.le_of_ble_eq_true rfl) dX12_door_20 (fun z8 A9 H locs hw10 hP hS => ?_)
      obtain ⟨hI, hf11, hw10⟩ := hw10
      have r_A9_0_8 : (0 : Int) ≤ (A9 0 8) ∧ (A9 0 8) ≤ 5 := hI 0 8
      have rz8 : 0 ≤ z8 ∧ z8 ≤ 1 := hw10.1
      refine lv_if_ne (tgt := 27) hx hb dX12_door_23 (by decide) (fun c12 => ?_) (fun c12 => ?_)
      · have c12 : ¬ z8 = 0 := mt (i_eq0 (rb rz8 (by decide) (by decide))).mpr c12
        refine lv_bipush (v := iI 10) hx hb dX12_door_27 (by decide +kernel) ?_
        refine lv_aload_n hx hb dX12_door_29 rfl (lv_at hl 0 rfl) ?_
        have e_A9_47 : A9 0 47 = (A 0 47) := (hf11.2 47 rfl)
        refine va_get (D := (dC, dI)) (ci := 12) (v := .int (iI (A9 0 47))) (C := RX12) (T := TX12) (N := 85) hx hb hts hiX12 hown hK hP 0 wm0 rfl 47 (by decide) (hts _ (List.mem_cons_of_mem _ (wl_in_1 _ (List.mem_of_getElem? (i := 12) rfl)))) (fun _ h9 => h9) rfl dX12_door_30 ?_
        refine tp_i (y := iI (A 0 47)) (congrArg iI e_A9_47) ?_
        refine x_mulv (v := 10 * (A 0 47)) hx hb dX12_door_33 (by omega) ?_
        refine lv_aload_n hx hb dX12_door_34 rfl (lv_at hl 0 rfl) ?_
        refine va_get (D := (dC, dI)) (ci := 12) (v := .ref (q 4)) (C := RX12) (T := TX12) (N := 85) hx hb hts hiX12 hown hK hP 0 wm0 rfl 15 (by decide) (hts _ (List.mem_cons_of_mem _ (wl_in_1 _ (List.mem_of_getElem? (i := 13) rfl)))) (fun _ h9 => h9) rfl dX12_door_35 ?_
        refine lv_aload_n hx hb dX12_door_38 rfl (lv_at hl 0 rfl) ?_
        refine va_get (D := (dC, dI)) (ci := 12) (v := .int (iI (A9 0 47))) (C := RX12) (T := TX12) (N := 85) hx hb hts hiX12 hown hK hP 0 wm0 rfl 47 (by decide) (hts _ (List.mem_cons_of_mem _ (wl_in_1 _ (List.mem_of_getElem? (i := 12) rfl)))) (fun _ h9 => h9) rfl dX12_door_39 ?_
        refine tp_i (y := iI (A 0 47)) (congrArg iI e_A9_47) ?_
        have a_A9_4 : A9 4 = A 4 := (hf11.1 4 (by decide) rfl)
        refine x_iald hx hb hK hP 4 1 wm4 rfl (by omega) (by decide) dX12_door_42 (fun z13 hz13 => ?_)
        have rz13 : (0 : Int) ≤ z13 ∧ z13 ≤ 10 := by rw [hz13]; exact hI 4 _
        have hz13 : z13 = A 4 ((A 0 47)).toNat := hz13.trans (congrFun a_A9_4 _)
        have ez13 : z13 = z1 := hz13.trans hz1.symm
        refine x_addv (v := 10 * (A 0 47) + z13) hx hb dX12_door_43 (by omega) ?_
        refine lv_istore_n (lv' := [(2, .int (iI (10 * (A 0 47) + z13))), (0, .ref (q 0)), (1, .int (iI 0))]) hx hb dX12_door_44 rfl hl (by decide) rfl (fun ls hl => ?_)
        refine lv_aload_n hx hb dX12_door_45 rfl (lv_at hl 1 rfl) ?_
        refine va_get (D := (dC, dI)) (ci := 12) (v := .ref (q 5)) (C := RX12) (T := TX12) (N := 85) hx hb hts hiX12 hown hK hP 0 wm0 rfl 16 (by decide) (hts _ (List.mem_cons_of_mem _ (wl_in_1 _ (List.mem_of_getElem? (i := 22) rfl)))) (fun _ h9 => h9) rfl dX12_door_46 ?_
        refine lv_iload_n hx hb dX12_door_49 rfl (lv_at hl 0 rfl) ?_
        refine lv_aload_n hx hb dX12_door_50 rfl (lv_at hl 1 rfl) ?_
        refine x_calll (As := []) (rest := [.int (iI (10 * (A 0 47) + z13)), .ref (q 5)]) ⟨hx, hb, hml, hown, hts⟩ (mc_X12_fresh l dC dI cB cI cJ cZ cQ q _ hI) (cwV 0 hts (goodV (wl_in_2 _ (List.mem_of_getElem? (i := 35) rfl)) (wl_in_2 _ (List.mem_of_getElem? (i := 36) rfl)) (wl_in_2 _ (List.mem_of_getElem? (i := 37) rfl)) (wl_in_0 _ (List.mem_of_getElem? (i := 8) rfl)) (wl_in_2 _ (List.mem_of_getElem? (i := 22) rfl))) rfl rfl rfl (by decide +kernel) ⟨Nat.le_of_ble_eq_true rfl, Nat.le_of_ble_eq_true rfl⟩) hK hDD hA0 hP hS 0 12 wm0 rfl rfl hl.1 (Nat.le_of_ble_eq_true rfl) dX12_door_51 (fun z14 A15 H locs hw16 hP hS => ?_)
        obtain ⟨hI, hf17, hw16⟩ := hw16
        refine x_last hx hb hK hP hDD hS 5 2 wm5 rfl (by omega) (by decide) dX12_door_54 ws5 (fun H locs hP hS => ?_)
        have hI := hI.st (j := 5) (i := (10 * (A 0 47) + z13).toNat) (v := z14) (show (-9223372036854775808 : Int) ≤ z14 ∧ z14 ≤ 9223372036854775807 from (by omega))
        refine lv_iload_n hx hb dX12_door_55 rfl (lv_at hl 2 rfl) ?_
        obtain ⟨A18, hA18⟩ : ∃ A18 : St, A18 = (stA A15 5 (10 * (A 0 47) + z13).toNat z14) := ⟨_, rfl⟩
        rw [← hA18] at hP hI
        refine lv_if_eq (tgt := 66) hx hb dX12_door_56 (by decide) (fun _ => ?_) (fun c19 => absurd c19 (by decide +kernel))
        refine lv_aload_n hx hb dX12_door_66 rfl (lv_at hl 1 rfl) ?_
        refine va_get (D := (dC, dI)) (ci := 12) (v := .ref (q 6)) (C := RX12) (T := TX12) (N := 85) hx hb hts hiX12 hown hK hP 0 wm0 rfl 17 (by decide) (hts _ (List.mem_cons_of_mem _ (wl_in_2 _ (List.mem_of_getElem? (i := 39) rfl)))) (fun _ h9 => h9) rfl dX12_door_67 ?_
        refine lv_iload_n hx hb dX12_door_70 rfl (lv_at hl 0 rfl) ?_
        refine lv_aload_n hx hb dX12_door_71 rfl (lv_at hl 1 rfl) ?_
        refine lv_iconst (v := iI 0) hx hb dX12_door_72 (by decide +kernel) ?_
        refine x_calli (As := [.int (iI 0)]) (rest := [.int (iI (10 * (A 0 47) + z13)), .ref (q 6)]) ⟨hx, hb, hml, hown, hts⟩ (mc_X12_asked l dC dI cB cI cJ cZ cQ q _ 0 hI ⟨by decide, by decide⟩) (cwV 1 hts (goodV (wl_in_2 _ (List.mem_of_getElem? (i := 47) rfl)) (wl_in_2 _ (List.mem_of_getElem? (i := 48) rfl)) (wl_in_2 _ (List.mem_of_getElem? (i := 49) rfl)) (wl_in_0 _ (List.mem_of_getElem? (i := 8) rfl)) (wl_in_2 _ (List.mem_of_getElem? (i := 29) rfl))) rfl rfl rfl (by decide +kernel) ⟨Nat.le_of_ble_eq_true rfl, Nat.le_of_ble_eq_true rfl⟩) hK hDD hA0 hP hS 0 12 wm0 rfl rfl hl.1 (Nat.le_of_ble_eq_true rfl) dX12_door_73 (fun z20 A21 H locs hw22 hP hS => ?_)
        obtain ⟨hI, hf23, hw22⟩ := hw22
        have hw22 : 0 ≤ z20 ∧ z20 ≤ 7 := ⟨hw22.1, hw22.2.2.1 rfl⟩
        refine x_iast hx hb hK hP hDD hS 6 1 wm6 rfl (by omega) (by decide) dX12_door_76 ws6 (fun H locs hP hS => ?_)
        have hI := hI.st (j := 6) (i := (10 * (A 0 47) + z13).toNat) (v := z20) (show (0 : Int) ≤ z20 ∧ z20 ≤ 7 from (by omega))
        refine lv_iload_n hx hb dX12_door_77 rfl (lv_at hl 2 rfl) ?_
        obtain ⟨A24, hA24⟩ : ∃ A24 : St, A24 = (stA A21 6 (10 * (A 0 47) + z13).toNat z20) := ⟨_, rfl⟩
        rw [← hA24] at hP hI
        refine lv_if_ne (tgt := 92) hx hb dX12_door_78 (by decide) (fun c25 => absurd c25 (by decide +kernel)) (fun _ => ?_)
        refine lv_aload_n hx hb dX12_door_81 rfl (lv_at hl 1 rfl) ?_
        refine lv_iconst (v := iI 0) hx hb dX12_door_82 (by decide +kernel) ?_
        refine lv_aload_n hx hb dX12_door_83 rfl (lv_at hl 1 rfl) ?_
        refine va_get (D := (dC, dI)) (ci := 12) (v := .ref (q 6)) (C := RX12) (T := TX12) (N := 85) hx hb hts hiX12 hown hK hP 0 wm0 rfl 17 (by decide) (hts _ (List.mem_cons_of_mem _ (wl_in_2 _ (List.mem_of_getElem? (i := 39) rfl)))) (fun _ h9 => h9) rfl dX12_door_84 ?_
        refine lv_iload_n hx hb dX12_door_87 rfl (lv_at hl 0 rfl) ?_
        refine x_iald hx hb hK hP 6 1 wm6 rfl (by omega) (by decide) dX12_door_88 (fun z26 hz26 => ?_)
        have rz26 : (0 : Int) ≤ z26 ∧ z26 ≤ 7 := by rw [hz26]; exact hI 6 _
        clear hz26
        refine x_callv (As := [.int (iI 0), .int (iI z26)]) (rest := []) ⟨hx, hb, hml, hown, hts⟩ (mc_X12_bars l dC dI cB cI cJ cZ cQ q _ 0 z26 hI ⟨by decide, by decide⟩ (rb rz26 (by decide) (by decide))) (cwV 2 hts (goodV (wl_in_2 _ (List.mem_of_getElem? (i := 50) rfl)) (wl_in_2 _ (List.mem_of_getElem? (i := 51) rfl)) (wl_in_2 _ (List.mem_of_getElem? (i := 52) rfl)) (wl_in_0 _ (List.mem_of_getElem? (i := 8) rfl)) (wl_in_2 _ (List.mem_of_getElem? (i := 30) rfl))) rfl rfl rfl (by decide +kernel) ⟨Nat.le_of_ble_eq_true rfl, Nat.le_of_ble_eq_true rfl⟩) hK hDD hA0 hP hS 0 12 wm0 rfl rfl hl.1 (Nat.le_of_ble_eq_true rfl) dX12_door_89 (fun A27 H locs hw28 hP hS => ?_)
        obtain ⟨hI, hf29, hw28⟩ := hw28
        clear hw28
        refine lv_aload_n hx hb dX12_door_92 rfl (lv_at hl 1 rfl) ?_
        refine va_get (D := (dC, dI)) (ci := 12) (v := .ref (q 7)) (C := RX12) (T := TX12) (N := 85) hx hb hts hiX12 hown hK hP 0 wm0 rfl 18 (by decide) (hts _ (List.mem_cons_of_mem _ (wl_in_2 _ (List.mem_of_getElem? (i := 40) rfl)))) (fun _ h9 => h9) rfl dX12_door_93 ?_
        refine lv_iload_n hx hb dX12_door_96 rfl (lv_at hl 0 rfl) ?_
        refine lv_iload_n hx hb dX12_door_97 rfl (lv_at hl 2 rfl) ?_
        refine lv_if_eq (tgt := 110) hx hb dX12_door_98 (by decide) (fun _ => ?_) (fun c30 => absurd c30 (by decide +kernel))
        refine lv_aload_n hx hb dX12_door_110 rfl (lv_at hl 1 rfl) ?_
        refine lv_iconst (v := iI 0) hx hb dX12_door_111 (by decide +kernel) ?_
        refine x_calli (As := [.int (iI 0)]) (rest := [.int (iI (10 * (A 0 47) + z13)), .ref (q 7)]) ⟨hx, hb, hml, hown, hts⟩ (mc_X12_asked l dC dI cB cI cJ cZ cQ q _ 0 hI ⟨by decide, by decide⟩) (cwV 1 hts (goodV (wl_in_2 _ (List.mem_of_getElem? (i := 47) rfl)) (wl_in_2 _ (List.mem_of_getElem? (i := 48) rfl)) (wl_in_2 _ (List.mem_of_getElem? (i := 49) rfl)) (wl_in_0 _ (List.mem_of_getElem? (i := 8) rfl)) (wl_in_2 _ (List.mem_of_getElem? (i := 29) rfl))) rfl rfl rfl (by decide +kernel) ⟨Nat.le_of_ble_eq_true rfl, Nat.le_of_ble_eq_true rfl⟩) hK hDD hA0 hP hS 0 12 wm0 rfl rfl hl.1 (Nat.le_of_ble_eq_true rfl) dX12_door_112 (fun z31 A32 H locs hw33 hP hS => ?_)
        obtain ⟨hI, hf34, hw33⟩ := hw33
        have hw33 : 0 ≤ z31 ∧ z31 ≤ 7 := ⟨hw33.1, hw33.2.2.1 rfl⟩
        refine x_iast hx hb hK hP hDD hS 7 1 wm7 rfl (by omega) (by decide) dX12_door_115 ws7 (fun H locs hP hS => ?_)
        have hI := hI.st (j := 7) (i := (10 * (A 0 47) + z13).toNat) (v := z31) (show (0 : Int) ≤ z31 ∧ z31 ≤ 7 from (by omega))
        refine lv_aload_n hx hb dX12_door_116 rfl (lv_at hl 1 rfl) ?_
        refine va_get (D := (dC, dI)) (ci := 12) (v := .ref (q 8)) (C := RX12) (T := TX12) (N := 85) hx hb hts hiX12 hown hK hP 0 wm0 rfl 19 (by decide) (hts _ (List.mem_cons_of_mem _ (wl_in_2 _ (List.mem_of_getElem? (i := 41) rfl)))) (fun _ h9 => h9) rfl dX12_door_117 ?_
        refine lv_iload_n hx hb dX12_door_120 rfl (lv_at hl 0 rfl) ?_
        refine lv_iload_n hx hb dX12_door_121 rfl (lv_at hl 2 rfl) ?_
        refine x_zast hx hb hK hP hDD hS 8 3 wm8 rfl (by omega) (by decide) dX12_door_122 (by omega) ws8 (fun H locs hP hS => ?_)
        have hI := hI.st (j := 8) (i := (10 * (A 0 47) + z13).toNat) (v := 0) (show (0 : Int) ≤ 0 ∧ 0 ≤ 1 from (by omega))
        refine lv_aload_n hx hb dX12_door_123 rfl (lv_at hl 1 rfl) ?_
        refine va_get (D := (dC, dI)) (ci := 12) (v := .ref (q 9)) (C := RX12) (T := TX12) (N := 85) hx hb hts hiX12 hown hK hP 0 wm0 rfl 20 (by decide) (hts _ (List.mem_cons_of_mem _ (wl_in_2 _ (List.mem_of_getElem? (i := 42) rfl)))) (fun _ h9 => h9) rfl dX12_door_124 ?_
        refine lv_iload_n hx hb dX12_door_127 rfl (lv_at hl 0 rfl) ?_
        refine lv_iload_n hx hb dX12_door_128 rfl (lv_at hl 2 rfl) ?_
        obtain ⟨A35, hA35⟩ : ∃ A35 : St, A35 = (stA (stA A32 7 (10 * (A 0 47) + z13).toNat z31) 8 (10 * (A 0 47) + z13).toNat 0) := ⟨_, rfl⟩
        rw [← hA35] at hP hI
        refine lv_if_eq (tgt := 136) hx hb dX12_door_129 (by decide) (fun _ => ?_) (fun c36 => absurd c36 (by decide +kernel))
        refine lv_aload_n hx hb dX12_door_136 rfl (lv_at hl 1 rfl) ?_
        refine lv_iconst (v := iI 1) hx hb dX12_door_137 (by decide +kernel) ?_
        refine lv_bipush (v := iI 99) hx hb dX12_door_138 (by decide +kernel) ?_
        refine x_calli (As := [.int (iI 1), .int (iI 99)]) (rest := [.int (iI (10 * (A 0 47) + z13)), .ref (q 9)]) ⟨hx, hb, hml, hown, hts⟩ (mc_X12_number l dC dI cB cI cJ cZ cQ q _ 1 99 hI ⟨by decide, by decide⟩ ⟨by decide, by decide⟩) (cwV 2 hts (goodV (wl_in_2 _ (List.mem_of_getElem? (i := 53) rfl)) (wl_in_2 _ (List.mem_of_getElem? (i := 54) rfl)) (wl_in_2 _ (List.mem_of_getElem? (i := 55) rfl)) (wl_in_0 _ (List.mem_of_getElem? (i := 8) rfl)) (wl_in_1 _ (List.mem_of_getElem? (i := 26) rfl))) rfl rfl rfl (by decide +kernel) ⟨Nat.le_of_ble_eq_true rfl, Nat.le_of_ble_eq_true rfl⟩) hK hDD hA0 hP hS 0 12 wm0 rfl rfl hl.1 (Nat.le_of_ble_eq_true rfl) dX12_door_140 (fun z37 A38 H locs hw39 hP hS => ?_)
        obtain ⟨hI, hf40, hw39⟩ := hw39
        refine x_iast hx hb hK hP hDD hS 9 1 wm9 rfl (by omega) (by decide) dX12_door_143 ws9 (fun H locs hP hS => ?_)
        have hI := hI.st (j := 9) (i := (10 * (A 0 47) + z13).toNat) (v := z37) (show (-2147483648 : Int) ≤ z37 ∧ z37 ≤ 2147483647 from (by omega))
        refine lv_aload_n hx hb dX12_door_144 rfl (lv_at hl 1 rfl) ?_
        refine va_get (D := (dC, dI)) (ci := 12) (v := .ref (q 10)) (C := RX12) (T := TX12) (N := 85) hx hb hts hiX12 hown hK hP 0 wm0 rfl 21 (by decide) (hts _ (List.mem_cons_of_mem _ (wl_in_2 _ (List.mem_of_getElem? (i := 43) rfl)))) (fun _ h9 => h9) rfl dX12_door_145 ?_
        refine lv_iload_n hx hb dX12_door_148 rfl (lv_at hl 0 rfl) ?_
        refine lv_iconst (v := iI 0) hx hb dX12_door_149 (by decide +kernel) ?_
        refine x_zast hx hb hK hP hDD hS 10 3 wm10 rfl (by omega) (by decide) dX12_door_150 (by omega) ws10 (fun H locs hP hS => ?_)
        have hI := hI.st (j := 10) (i := (10 * (A 0 47) + z13).toNat) (v := 0) (show (0 : Int) ≤ 0 ∧ 0 ≤ 1 from (by omega))
        refine lv_aload_n hx hb dX12_door_151 rfl (lv_at hl 1 rfl) ?_
        refine va_get (D := (dC, dI)) (ci := 12) (v := .int (iI (A38 0 8))) (C := RX12) (T := TX12) (N := 85) hx hb hts hiX12 hown hK hP 0 wm0 rfl 8 (by decide) (hts _ (List.mem_cons_of_mem _ (wl_in_0 _ (List.mem_of_getElem? (i := 16) rfl)))) (fun _ h9 => h9) rfl dX12_door_152 ?_
        have r_A38_0_8 : (0 : Int) ≤ (A38 0 8) ∧ (A38 0 8) ≤ 5 := hI 0 8
        refine lv_if_ne (tgt := 171) hx hb dX12_door_155 (by decide) (fun c41 => ?_) (fun c41 => ?_)
        · have c41 : ¬ (A38 0 8) = 0 := mt (i_eq0 (rb r_A38_0_8 (by decide) (by decide))).mpr c41
          exact RET _ _ _ _ _ ⟨hI, fr.st (fr.st (fr.trans (fr_def hA35 (fr.st (fr.st (fr.trans (fr.trans (fr_def hA24 (fr.st (fr.trans (fr_def hA18 (fr.st (fr.trans (fr.trans (fr.rf) hf11 rfl rfl) hf17 rfl rfl) (by decide) rfl)) hf23 rfl rfl) (by decide) rfl)) hf29 rfl rfl) hf34 rfl rfl) (by decide) rfl) (by decide) rfl)) hf40 rfl rfl) (by decide) rfl) (by decide) rfl, trivial⟩ hP hS dX12_door_171
        · have c41 : (A38 0 8) = 0 := (i_eq0 (rb r_A38_0_8 (by decide) (by decide))).mp c41
          refine lv_aload_n hx hb dX12_door_158 rfl (lv_at hl 1 rfl) ?_
          refine va_get (D := (dC, dI)) (ci := 12) (v := .ref (q 4)) (C := RX12) (T := TX12) (N := 85) hx hb hts hiX12 hown hK hP 0 wm0 rfl 15 (by decide) (hts _ (List.mem_cons_of_mem _ (wl_in_1 _ (List.mem_of_getElem? (i := 13) rfl)))) (fun _ h9 => h9) rfl dX12_door_159 ?_
          refine lv_aload_n hx hb dX12_door_162 rfl (lv_at hl 1 rfl) ?_
          have e_A15_47 : A15 0 47 = (A 0 47) := (hf17.2 47 rfl).trans e_A9_47
          have e_A18_47 : A18 0 47 = (A 0 47) := by rw [hA18]; exact e_A15_47
          have e_A21_47 : A21 0 47 = (A 0 47) := (hf23.2 47 rfl).trans e_A18_47
          have e_A24_47 : A24 0 47 = (A 0 47) := by rw [hA24]; exact e_A21_47
          have e_A27_47 : A27 0 47 = (A 0 47) := (hf29.2 47 rfl).trans e_A24_47
          have e_A32_47 : A32 0 47 = (A 0 47) := (hf34.2 47 rfl).trans e_A27_47
          have e_A35_47 : A35 0 47 = (A 0 47) := by rw [hA35]; exact e_A32_47
          have e_A38_47 : A38 0 47 = (A 0 47) := (hf40.2 47 rfl).trans e_A35_47
          refine va_get (D := (dC, dI)) (ci := 12) (v := .int (iI (A38 0 47))) (C := RX12) (T := TX12) (N := 85) hx hb hts hiX12 hown hK hP 0 wm0 rfl 47 (by decide) (hts _ (List.mem_cons_of_mem _ (wl_in_1 _ (List.mem_of_getElem? (i := 12) rfl)))) (fun _ h9 => h9) rfl dX12_door_163 ?_
          refine tp_i (y := iI (A 0 47)) (congrArg iI e_A38_47) ?_
          refine lv_dup2_11 hx hb dX12_door_166 rfl rfl ?_
          have a_A15_4 : A15 4 = A 4 := (hf17.1 4 (by decide) rfl).trans a_A9_4
          have a_A18_4 : A18 4 = A 4 := by rw [hA18]; exact a_A15_4
          have a_A21_4 : A21 4 = A 4 := (hf23.1 4 (by decide) rfl).trans a_A18_4
          have a_A24_4 : A24 4 = A 4 := by rw [hA24]; exact a_A21_4
          have a_A27_4 : A27 4 = A 4 := (hf29.1 4 (by decide) rfl).trans a_A24_4
          have a_A32_4 : A32 4 = A 4 := (hf34.1 4 (by decide) rfl).trans a_A27_4
          have a_A35_4 : A35 4 = A 4 := by rw [hA35]; exact a_A32_4
          have a_A38_4 : A38 4 = A 4 := (hf40.1 4 (by decide) rfl).trans a_A35_4
          refine x_iald hx hb hK hP 4 1 wm4 rfl (by omega) (by decide) dX12_door_167 (fun z42 hz42 => ?_)
          have rz42 : (0 : Int) ≤ z42 ∧ z42 ≤ 10 := by rw [hz42]; exact hI 4 _
          have hz42 : z42 = A 4 ((A 0 47)).toNat := hz42.trans (congrFun a_A38_4 _)
          have ez42 : z42 = z1 := hz42.trans hz1.symm
          refine lv_iconst (v := iI 1) hx hb dX12_door_168 (by decide +kernel) ?_
          refine x_addv (v := z42 + 1) hx hb dX12_door_169 (by omega) ?_
          refine x_iast hx hb hK hP hDD hS 4 1 wm4 rfl (by omega) (by decide) dX12_door_170 ws4 (fun H locs hP hS => ?_)
          have hI := hI.st (j := 4) (i := ((A 0 47)).toNat) (v := z42 + 1) (show (0 : Int) ≤ z42 + 1 ∧ z42 + 1 ≤ 10 from (by omega))
          exact RET _ _ _ _ _ ⟨hI, fr.st (fr.st (fr.st (fr.trans (fr_def hA35 (fr.st (fr.st (fr.trans (fr.trans (fr_def hA24 (fr.st (fr.trans (fr_def hA18 (fr.st (fr.trans (fr.trans (fr.rf) hf11 rfl rfl) hf17 rfl rfl) (by decide) rfl)) hf23 rfl rfl) (by decide) rfl)) hf29 rfl rfl) hf34 rfl rfl) (by decide) rfl) (by decide) rfl)) hf40 rfl rfl) (by decide) rfl) (by decide) rfl) (by decide) rfl, trivial⟩ hP hS dX12_door_171
      · have c12 : z8 = 0 := (i_eq0 (rb rz8 (by decide) (by decide))).mp c12
        exact RET _ _ _ _ _ ⟨hI, fr.trans (fr.rf) hf11 rfl rfl, trivial⟩ hP hS dX12_door_26
    refine lv_icmp_ne (tgt := 19) hx hb dX12_door_12 (by decide) (fun c2 => ?_) (fun c2 => ?_)
    · have c2 : ¬ z1 = 10 := mt (i_eq (rb rz1 (by decide) (by decide)) ⟨by decide, by decide⟩).mpr c2
      refine lv_iconst (v := iI 0) hx hb dX12_door_19 (by decide +kernel) ?_
      exact J20_3 0 _ _ _ (by omega) (by omega) hP hS (lv_sub hl [0, 1] rfl)
    · have c2 : z1 = 10 := (i_eq (rb rz1 (by decide) (by decide)) ⟨by decide, by decide⟩).mp c2
      refine lv_iconst (v := iI 1) hx hb dX12_door_15 (by decide +kernel) ?_
      refine lv_goto (tgt := 20) hx hb dX12_door_16 (by decide) ?_
      exact J20_3 1 _ _ _ (by omega) (by omega) hP hS (lv_sub hl [0, 1] rfl)
  · have hl : lv_has ls 3 [(0, .ref (q 0)), (1, .int (iI 1))] := hl
    refine lv_aload_n hx hb dX12_door_0 rfl (lv_at hl 0 rfl) ?_
    refine lv_aload_n hx hb dX12_door_1 rfl (lv_at hl 0 rfl) ?_
    refine va_get (D := (dC, dI)) (ci := 12) (v := .ref (q 4)) (C := RX12) (T := TX12) (N := 85) hx hb hts hiX12 hown hK hP 0 wm0 rfl 15 (by decide) (hts _ (List.mem_cons_of_mem _ (wl_in_1 _ (List.mem_of_getElem? (i := 13) rfl)))) (fun _ h9 => h9) rfl dX12_door_2 ?_
    refine lv_aload_n hx hb dX12_door_5 rfl (lv_at hl 0 rfl) ?_
    refine va_get (D := (dC, dI)) (ci := 12) (v := .int (iI (A 0 47))) (C := RX12) (T := TX12) (N := 85) hx hb hts hiX12 hown hK hP 0 wm0 rfl 47 (by decide) (hts _ (List.mem_cons_of_mem _ (wl_in_1 _ (List.mem_of_getElem? (i := 12) rfl)))) (fun _ h9 => h9) rfl dX12_door_6 ?_
    have r_A_0_47 : (0 : Int) ≤ (A 0 47) ∧ (A 0 47) ≤ 1 := hI 0 47
    refine x_iald hx hb hK hP 4 1 wm4 rfl (by omega) (by decide) dX12_door_9 (fun z43 hz43 => ?_)
    have rz43 : (0 : Int) ≤ z43 ∧ z43 ≤ 10 := by rw [hz43]; exact hI 4 _
    have hz43 : z43 = A 4 ((A 0 47)).toNat := hz43
    refine lv_bipush (v := iI 10) hx hb dX12_door_10 (by decide +kernel) ?_
    have J20_45 : ∀ (z46 : Int) (H : Heap) (locs : List Loc) (ls : Array Slot), (0 ≤ z46 ∧ z46 ≤ 1) → ((z46 = 0 ∧ ¬ z43 = 10) ∨ (z46 = 1 ∧ z43 = 10)) → va_P (dC, dI) vwCl (WM cI cJ cZ q A) H → va_S AS s.heap H locs → lv_has ls 3 [(0, .ref (q 0)), (1, .int (iI 1))] → W p l e (headSpec ws_mc_X12_door ({ frames := 3, cells := 0, slots := 0, locals := 70 } : Room)).room s m [.ref (q 0), .int (iI 1)].toArray below meth c H locs 0 0 Q (F0 m 20 ls [.int (iI z46), .ref (q 0)]) := by
      intro z46 H locs ls f48 f49 hP hS hl
      refine x_calli (As := [.int (iI z46)]) (rest := []) ⟨hx, hb, hml, hown, hts⟩ (mc_X12_counts l dC dI cB cI cJ cZ cQ q _ z46 hI f48) (cwV 1 hts (goodV (wl_in_2 _ (List.mem_of_getElem? (i := 32) rfl)) (wl_in_2 _ (List.mem_of_getElem? (i := 33) rfl)) (wl_in_2 _ (List.mem_of_getElem? (i := 34) rfl)) (wl_in_0 _ (List.mem_of_getElem? (i := 8) rfl)) (wl_in_2 _ (List.mem_of_getElem? (i := 20) rfl))) rfl rfl rfl (by decide +kernel) ⟨Nat.le_of_ble_eq_true rfl, Nat.le_of_ble_eq_true rfl⟩) hK hDD hA0 hP hS 0 12 wm0 rfl rfl hl.1 (Nat.le_of_ble_eq_true rfl) dX12_door_20 (fun z50 A51 H locs hw52 hP hS => ?_)
      obtain ⟨hI, hf53, hw52⟩ := hw52
      have r_A51_0_8 : (0 : Int) ≤ (A51 0 8) ∧ (A51 0 8) ≤ 5 := hI 0 8
      have rz50 : 0 ≤ z50 ∧ z50 ≤ 1 := hw52.1
      refine lv_if_ne (tgt := 27) hx hb dX12_door_23 (by decide) (fun c54 => ?_) (fun c54 => ?_)
      · have c54 : ¬ z50 = 0 := mt (i_eq0 (rb rz50 (by decide) (by decide))).mpr c54
        refine lv_bipush (v := iI 10) hx hb dX12_door_27 (by decide +kernel) ?_
        refine lv_aload_n hx hb dX12_door_29 rfl (lv_at hl 0 rfl) ?_
        have e_A51_47 : A51 0 47 = (A 0 47) := (hf53.2 47 rfl)
        refine va_get (D := (dC, dI)) (ci := 12) (v := .int (iI (A51 0 47))) (C := RX12) (T := TX12) (N := 85) hx hb hts hiX12 hown hK hP 0 wm0 rfl 47 (by decide) (hts _ (List.mem_cons_of_mem _ (wl_in_1 _ (List.mem_of_getElem? (i := 12) rfl)))) (fun _ h9 => h9) rfl dX12_door_30 ?_
        refine tp_i (y := iI (A 0 47)) (congrArg iI e_A51_47) ?_
        refine x_mulv (v := 10 * (A 0 47)) hx hb dX12_door_33 (by omega) ?_
        refine lv_aload_n hx hb dX12_door_34 rfl (lv_at hl 0 rfl) ?_
        refine va_get (D := (dC, dI)) (ci := 12) (v := .ref (q 4)) (C := RX12) (T := TX12) (N := 85) hx hb hts hiX12 hown hK hP 0 wm0 rfl 15 (by decide) (hts _ (List.mem_cons_of_mem _ (wl_in_1 _ (List.mem_of_getElem? (i := 13) rfl)))) (fun _ h9 => h9) rfl dX12_door_35 ?_
        refine lv_aload_n hx hb dX12_door_38 rfl (lv_at hl 0 rfl) ?_
        refine va_get (D := (dC, dI)) (ci := 12) (v := .int (iI (A51 0 47))) (C := RX12) (T := TX12) (N := 85) hx hb hts hiX12 hown hK hP 0 wm0 rfl 47 (by decide) (hts _ (List.mem_cons_of_mem _ (wl_in_1 _ (List.mem_of_getElem? (i := 12) rfl)))) (fun _ h9 => h9) rfl dX12_door_39 ?_
        refine tp_i (y := iI (A 0 47)) (congrArg iI e_A51_47) ?_
        have a_A51_4 : A51 4 = A 4 := (hf53.1 4 (by decide) rfl)
        refine x_iald hx hb hK hP 4 1 wm4 rfl (by omega) (by decide) dX12_door_42 (fun z55 hz55 => ?_)
        have rz55 : (0 : Int) ≤ z55 ∧ z55 ≤ 10 := by rw [hz55]; exact hI 4 _
        have hz55 : z55 = A 4 ((A 0 47)).toNat := hz55.trans (congrFun a_A51_4 _)
        have ez55 : z55 = z43 := hz55.trans hz43.symm
        refine x_addv (v := 10 * (A 0 47) + z55) hx hb dX12_door_43 (by omega) ?_
        refine lv_istore_n (lv' := [(2, .int (iI (10 * (A 0 47) + z55))), (0, .ref (q 0)), (1, .int (iI 1))]) hx hb dX12_door_44 rfl hl (by decide) rfl (fun ls hl => ?_)
        refine lv_aload_n hx hb dX12_door_45 rfl (lv_at hl 1 rfl) ?_
        refine va_get (D := (dC, dI)) (ci := 12) (v := .ref (q 5)) (C := RX12) (T := TX12) (N := 85) hx hb hts hiX12 hown hK hP 0 wm0 rfl 16 (by decide) (hts _ (List.mem_cons_of_mem _ (wl_in_1 _ (List.mem_of_getElem? (i := 22) rfl)))) (fun _ h9 => h9) rfl dX12_door_46 ?_
        refine lv_iload_n hx hb dX12_door_49 rfl (lv_at hl 0 rfl) ?_
        refine lv_aload_n hx hb dX12_door_50 rfl (lv_at hl 1 rfl) ?_
        refine x_calll (As := []) (rest := [.int (iI (10 * (A 0 47) + z55)), .ref (q 5)]) ⟨hx, hb, hml, hown, hts⟩ (mc_X12_fresh l dC dI cB cI cJ cZ cQ q _ hI) (cwV 0 hts (goodV (wl_in_2 _ (List.mem_of_getElem? (i := 35) rfl)) (wl_in_2 _ (List.mem_of_getElem? (i := 36) rfl)) (wl_in_2 _ (List.mem_of_getElem? (i := 37) rfl)) (wl_in_0 _ (List.mem_of_getElem? (i := 8) rfl)) (wl_in_2 _ (List.mem_of_getElem? (i := 22) rfl))) rfl rfl rfl (by decide +kernel) ⟨Nat.le_of_ble_eq_true rfl, Nat.le_of_ble_eq_true rfl⟩) hK hDD hA0 hP hS 0 12 wm0 rfl rfl hl.1 (Nat.le_of_ble_eq_true rfl) dX12_door_51 (fun z56 A57 H locs hw58 hP hS => ?_)
        obtain ⟨hI, hf59, hw58⟩ := hw58
        refine x_last hx hb hK hP hDD hS 5 2 wm5 rfl (by omega) (by decide) dX12_door_54 ws5 (fun H locs hP hS => ?_)
        have hI := hI.st (j := 5) (i := (10 * (A 0 47) + z55).toNat) (v := z56) (show (-9223372036854775808 : Int) ≤ z56 ∧ z56 ≤ 9223372036854775807 from (by omega))
        refine lv_iload_n hx hb dX12_door_55 rfl (lv_at hl 2 rfl) ?_
        obtain ⟨A60, hA60⟩ : ∃ A60 : St, A60 = (stA A57 5 (10 * (A 0 47) + z55).toNat z56) := ⟨_, rfl⟩
        rw [← hA60] at hP hI
        refine lv_if_eq (tgt := 66) hx hb dX12_door_56 (by decide) (fun c61 => absurd c61 (by decide +kernel)) (fun _ => ?_)
        refine lv_aload_n hx hb dX12_door_59 rfl (lv_at hl 1 rfl) ?_
        refine lv_ldc2 (v := 24948) hx hb hown (hts _ (List.mem_cons_of_mem _ (wl_in_0 _ (List.mem_of_getElem? (i := 47) rfl)))) dX12_door_60 ?_
        refine tp_l (y := jI 24948) (by decide +kernel) ?_
        refine x_callv (As := [.long (jI 24948)]) (rest := []) ⟨hx, hb, hml, hown, hts⟩ (mc_X12_must_ l dC dI cB cI cJ cZ cQ q _ 24948 hI ⟨by decide, by decide⟩) (cwV 1 hts (goodV (wl_in_2 _ (List.mem_of_getElem? (i := 44) rfl)) (wl_in_2 _ (List.mem_of_getElem? (i := 45) rfl)) (wl_in_2 _ (List.mem_of_getElem? (i := 46) rfl)) (wl_in_0 _ (List.mem_of_getElem? (i := 8) rfl)) (wl_in_2 _ (List.mem_of_getElem? (i := 21) rfl))) rfl rfl rfl (by decide +kernel) ⟨Nat.le_of_ble_eq_true rfl, Nat.le_of_ble_eq_true rfl⟩) hK hDD hA0 hP hS 0 12 wm0 rfl rfl hl.1 (Nat.le_of_ble_eq_true rfl) dX12_door_63 (fun A62 H locs hw63 hP hS => ?_)
        obtain ⟨hI, hf64, hw63⟩ := hw63
        clear hw63
        refine lv_aload_n hx hb dX12_door_66 rfl (lv_at hl 1 rfl) ?_
        refine va_get (D := (dC, dI)) (ci := 12) (v := .ref (q 6)) (C := RX12) (T := TX12) (N := 85) hx hb hts hiX12 hown hK hP 0 wm0 rfl 17 (by decide) (hts _ (List.mem_cons_of_mem _ (wl_in_2 _ (List.mem_of_getElem? (i := 39) rfl)))) (fun _ h9 => h9) rfl dX12_door_67 ?_
        refine lv_iload_n hx hb dX12_door_70 rfl (lv_at hl 0 rfl) ?_
        refine lv_aload_n hx hb dX12_door_71 rfl (lv_at hl 1 rfl) ?_
        refine lv_iconst (v := iI 0) hx hb dX12_door_72 (by decide +kernel) ?_
        refine x_calli (As := [.int (iI 0)]) (rest := [.int (iI (10 * (A 0 47) + z55)), .ref (q 6)]) ⟨hx, hb, hml, hown, hts⟩ (mc_X12_asked l dC dI cB cI cJ cZ cQ q _ 0 hI ⟨by decide, by decide⟩) (cwV 1 hts (goodV (wl_in_2 _ (List.mem_of_getElem? (i := 47) rfl)) (wl_in_2 _ (List.mem_of_getElem? (i := 48) rfl)) (wl_in_2 _ (List.mem_of_getElem? (i := 49) rfl)) (wl_in_0 _ (List.mem_of_getElem? (i := 8) rfl)) (wl_in_2 _ (List.mem_of_getElem? (i := 29) rfl))) rfl rfl rfl (by decide +kernel) ⟨Nat.le_of_ble_eq_true rfl, Nat.le_of_ble_eq_true rfl⟩) hK hDD hA0 hP hS 0 12 wm0 rfl rfl hl.1 (Nat.le_of_ble_eq_true rfl) dX12_door_73 (fun z65 A66 H locs hw67 hP hS => ?_)
        obtain ⟨hI, hf68, hw67⟩ := hw67
        have hw67 : 0 ≤ z65 ∧ z65 ≤ 7 := ⟨hw67.1, hw67.2.2.1 rfl⟩
        refine x_iast hx hb hK hP hDD hS 6 1 wm6 rfl (by omega) (by decide) dX12_door_76 ws6 (fun H locs hP hS => ?_)
        have hI := hI.st (j := 6) (i := (10 * (A 0 47) + z55).toNat) (v := z65) (show (0 : Int) ≤ z65 ∧ z65 ≤ 7 from (by omega))
        refine lv_iload_n hx hb dX12_door_77 rfl (lv_at hl 2 rfl) ?_
        obtain ⟨A69, hA69⟩ : ∃ A69 : St, A69 = (stA A66 6 (10 * (A 0 47) + z55).toNat z65) := ⟨_, rfl⟩
        rw [← hA69] at hP hI
        refine lv_if_ne (tgt := 92) hx hb dX12_door_78 (by decide) (fun _ => ?_) (fun c70 => absurd c70 (by decide +kernel))
        refine lv_aload_n hx hb dX12_door_92 rfl (lv_at hl 1 rfl) ?_
        refine va_get (D := (dC, dI)) (ci := 12) (v := .ref (q 7)) (C := RX12) (T := TX12) (N := 85) hx hb hts hiX12 hown hK hP 0 wm0 rfl 18 (by decide) (hts _ (List.mem_cons_of_mem _ (wl_in_2 _ (List.mem_of_getElem? (i := 40) rfl)))) (fun _ h9 => h9) rfl dX12_door_93 ?_
        refine lv_iload_n hx hb dX12_door_96 rfl (lv_at hl 0 rfl) ?_
        refine lv_iload_n hx hb dX12_door_97 rfl (lv_at hl 2 rfl) ?_
        refine lv_if_eq (tgt := 110) hx hb dX12_door_98 (by decide) (fun c71 => absurd c71 (by decide +kernel)) (fun _ => ?_)
        refine lv_aload_n hx hb dX12_door_101 rfl (lv_at hl 1 rfl) ?_
        refine va_get (D := (dC, dI)) (ci := 12) (v := .ref (q 6)) (C := RX12) (T := TX12) (N := 85) hx hb hts hiX12 hown hK hP 0 wm0 rfl 17 (by decide) (hts _ (List.mem_cons_of_mem _ (wl_in_2 _ (List.mem_of_getElem? (i := 39) rfl)))) (fun _ h9 => h9) rfl dX12_door_102 ?_
        refine lv_iload_n hx hb dX12_door_105 rfl (lv_at hl 0 rfl) ?_
        refine x_iald hx hb hK hP 6 1 wm6 rfl (by omega) (by decide) dX12_door_106 (fun z72 hz72 => ?_)
        have rz72 : (0 : Int) ≤ z72 ∧ z72 ≤ 7 := by rw [hz72]; exact hI 6 _
        clear hz72
        refine lv_goto (tgt := 115) hx hb dX12_door_107 (by decide) ?_
        refine x_iast hx hb hK hP hDD hS 7 1 wm7 rfl (by omega) (by decide) dX12_door_115 ws7 (fun H locs hP hS => ?_)
        have hI := hI.st (j := 7) (i := (10 * (A 0 47) + z55).toNat) (v := z72) (show (0 : Int) ≤ z72 ∧ z72 ≤ 7 from (by omega))
        refine lv_aload_n hx hb dX12_door_116 rfl (lv_at hl 1 rfl) ?_
        refine va_get (D := (dC, dI)) (ci := 12) (v := .ref (q 8)) (C := RX12) (T := TX12) (N := 85) hx hb hts hiX12 hown hK hP 0 wm0 rfl 19 (by decide) (hts _ (List.mem_cons_of_mem _ (wl_in_2 _ (List.mem_of_getElem? (i := 41) rfl)))) (fun _ h9 => h9) rfl dX12_door_117 ?_
        refine lv_iload_n hx hb dX12_door_120 rfl (lv_at hl 0 rfl) ?_
        refine lv_iload_n hx hb dX12_door_121 rfl (lv_at hl 2 rfl) ?_
        refine x_zast hx hb hK hP hDD hS 8 3 wm8 rfl (by omega) (by decide) dX12_door_122 (by omega) ws8 (fun H locs hP hS => ?_)
        have hI := hI.st (j := 8) (i := (10 * (A 0 47) + z55).toNat) (v := 1) (show (0 : Int) ≤ 1 ∧ 1 ≤ 1 from (by omega))
        refine lv_aload_n hx hb dX12_door_123 rfl (lv_at hl 1 rfl) ?_
        refine va_get (D := (dC, dI)) (ci := 12) (v := .ref (q 9)) (C := RX12) (T := TX12) (N := 85) hx hb hts hiX12 hown hK hP 0 wm0 rfl 20 (by decide) (hts _ (List.mem_cons_of_mem _ (wl_in_2 _ (List.mem_of_getElem? (i := 42) rfl)))) (fun _ h9 => h9) rfl dX12_door_124 ?_
        refine lv_iload_n hx hb dX12_door_127 rfl (lv_at hl 0 rfl) ?_
        refine lv_iload_n hx hb dX12_door_128 rfl (lv_at hl 2 rfl) ?_
        obtain ⟨A73, hA73⟩ : ∃ A73 : St, A73 = (stA (stA A69 7 (10 * (A 0 47) + z55).toNat z72) 8 (10 * (A 0 47) + z55).toNat 1) := ⟨_, rfl⟩
        rw [← hA73] at hP hI
        refine lv_if_eq (tgt := 136) hx hb dX12_door_129 (by decide) (fun c74 => absurd c74 (by decide +kernel)) (fun _ => ?_)
        refine lv_iconst (v := iI 0) hx hb dX12_door_132 (by decide +kernel) ?_
        refine lv_goto (tgt := 143) hx hb dX12_door_133 (by decide) ?_
        refine x_iast hx hb hK hP hDD hS 9 1 wm9 rfl (by omega) (by decide) dX12_door_143 ws9 (fun H locs hP hS => ?_)
        have hI := hI.st (j := 9) (i := (10 * (A 0 47) + z55).toNat) (v := 0) (show (-2147483648 : Int) ≤ 0 ∧ 0 ≤ 2147483647 from (by omega))
        refine lv_aload_n hx hb dX12_door_144 rfl (lv_at hl 1 rfl) ?_
        refine va_get (D := (dC, dI)) (ci := 12) (v := .ref (q 10)) (C := RX12) (T := TX12) (N := 85) hx hb hts hiX12 hown hK hP 0 wm0 rfl 21 (by decide) (hts _ (List.mem_cons_of_mem _ (wl_in_2 _ (List.mem_of_getElem? (i := 43) rfl)))) (fun _ h9 => h9) rfl dX12_door_145 ?_
        refine lv_iload_n hx hb dX12_door_148 rfl (lv_at hl 0 rfl) ?_
        refine lv_iconst (v := iI 0) hx hb dX12_door_149 (by decide +kernel) ?_
        refine x_zast hx hb hK hP hDD hS 10 3 wm10 rfl (by omega) (by decide) dX12_door_150 (by omega) ws10 (fun H locs hP hS => ?_)
        have hI := hI.st (j := 10) (i := (10 * (A 0 47) + z55).toNat) (v := 0) (show (0 : Int) ≤ 0 ∧ 0 ≤ 1 from (by omega))
        refine lv_aload_n hx hb dX12_door_151 rfl (lv_at hl 1 rfl) ?_
        have e_A69_8 : A69 0 8 = (A66 0 8) := by rw [hA69]; exact rfl
        have e_A73_8 : A73 0 8 = (A66 0 8) := by rw [hA73]; exact e_A69_8
        refine va_get (D := (dC, dI)) (ci := 12) (v := .int (iI (A73 0 8))) (C := RX12) (T := TX12) (N := 85) hx hb hts hiX12 hown hK hP 0 wm0 rfl 8 (by decide) (hts _ (List.mem_cons_of_mem _ (wl_in_0 _ (List.mem_of_getElem? (i := 16) rfl)))) (fun _ h9 => h9) rfl dX12_door_152 ?_
        refine tp_i (y := iI (A66 0 8)) (congrArg iI e_A73_8) ?_
        have r_A66_0_8 : (0 : Int) ≤ (A66 0 8) ∧ (A66 0 8) ≤ 5 := by rw [← e_A73_8]; exact hI 0 8
        refine lv_if_ne (tgt := 171) hx hb dX12_door_155 (by decide) (fun c75 => ?_) (fun c75 => ?_)
        · have c75 : ¬ (A66 0 8) = 0 := mt (i_eq0 (rb r_A66_0_8 (by decide) (by decide))).mpr c75
          exact RET _ _ _ _ _ ⟨hI, fr.st (fr.st (fr_def hA73 (fr.st (fr.st (fr_def hA69 (fr.st (fr.trans (fr.trans (fr_def hA60 (fr.st (fr.trans (fr.trans (fr.rf) hf53 rfl rfl) hf59 rfl rfl) (by decide) rfl)) hf64 rfl rfl) hf68 rfl rfl) (by decide) rfl)) (by decide) rfl) (by decide) rfl)) (by decide) rfl) (by decide) rfl, trivial⟩ hP hS dX12_door_171
        · have c75 : (A66 0 8) = 0 := (i_eq0 (rb r_A66_0_8 (by decide) (by decide))).mp c75
          refine lv_aload_n hx hb dX12_door_158 rfl (lv_at hl 1 rfl) ?_
          refine va_get (D := (dC, dI)) (ci := 12) (v := .ref (q 4)) (C := RX12) (T := TX12) (N := 85) hx hb hts hiX12 hown hK hP 0 wm0 rfl 15 (by decide) (hts _ (List.mem_cons_of_mem _ (wl_in_1 _ (List.mem_of_getElem? (i := 13) rfl)))) (fun _ h9 => h9) rfl dX12_door_159 ?_
          refine lv_aload_n hx hb dX12_door_162 rfl (lv_at hl 1 rfl) ?_
          have e_A57_47 : A57 0 47 = (A 0 47) := (hf59.2 47 rfl).trans e_A51_47
          have e_A60_47 : A60 0 47 = (A 0 47) := by rw [hA60]; exact e_A57_47
          have e_A62_47 : A62 0 47 = (A 0 47) := (hf64.2 47 rfl).trans e_A60_47
          have e_A66_47 : A66 0 47 = (A 0 47) := (hf68.2 47 rfl).trans e_A62_47
          have e_A69_47 : A69 0 47 = (A 0 47) := by rw [hA69]; exact e_A66_47
          have e_A73_47 : A73 0 47 = (A 0 47) := by rw [hA73]; exact e_A69_47
          refine va_get (D := (dC, dI)) (ci := 12) (v := .int (iI (A73 0 47))) (C := RX12) (T := TX12) (N := 85) hx hb hts hiX12 hown hK hP 0 wm0 rfl 47 (by decide) (hts _ (List.mem_cons_of_mem _ (wl_in_1 _ (List.mem_of_getElem? (i := 12) rfl)))) (fun _ h9 => h9) rfl dX12_door_163 ?_
          refine tp_i (y := iI (A 0 47)) (congrArg iI e_A73_47) ?_
          refine lv_dup2_11 hx hb dX12_door_166 rfl rfl ?_
          have a_A57_4 : A57 4 = A 4 := (hf59.1 4 (by decide) rfl).trans a_A51_4
          have a_A60_4 : A60 4 = A 4 := by rw [hA60]; exact a_A57_4
          have a_A62_4 : A62 4 = A 4 := (hf64.1 4 (by decide) rfl).trans a_A60_4
          have a_A66_4 : A66 4 = A 4 := (hf68.1 4 (by decide) rfl).trans a_A62_4
          have a_A69_4 : A69 4 = A 4 := by rw [hA69]; exact a_A66_4
          have a_A73_4 : A73 4 = A 4 := by rw [hA73]; exact a_A69_4
          refine x_iald hx hb hK hP 4 1 wm4 rfl (by omega) (by decide) dX12_door_167 (fun z76 hz76 => ?_)
          have rz76 : (0 : Int) ≤ z76 ∧ z76 ≤ 10 := by rw [hz76]; exact hI 4 _
          have hz76 : z76 = A 4 ((A 0 47)).toNat := hz76.trans (congrFun a_A73_4 _)
          have ez76 : z76 = z43 := hz76.trans hz43.symm
          refine lv_iconst (v := iI 1) hx hb dX12_door_168 (by decide +kernel) ?_
          refine x_addv (v := z76 + 1) hx hb dX12_door_169 (by omega) ?_
          refine x_iast hx hb hK hP hDD hS 4 1 wm4 rfl (by omega) (by decide) dX12_door_170 ws4 (fun H locs hP hS => ?_)
          have hI := hI.st (j := 4) (i := ((A 0 47)).toNat) (v := z76 + 1) (show (0 : Int) ≤ z76 + 1 ∧ z76 + 1 ≤ 10 from (by omega))
          exact RET _ _ _ _ _ ⟨hI, fr.st (fr.st (fr.st (fr_def hA73 (fr.st (fr.st (fr_def hA69 (fr.st (fr.trans (fr.trans (fr_def hA60 (fr.st (fr.trans (fr.trans (fr.rf) hf53 rfl rfl) hf59 rfl rfl) (by decide) rfl)) hf64 rfl rfl) hf68 rfl rfl) (by decide) rfl)) (by decide) rfl) (by decide) rfl)) (by decide) rfl) (by decide) rfl) (by decide) rfl, trivial⟩ hP hS dX12_door_171
      · have c54 : z50 = 0 := (i_eq0 (rb rz50 (by decide) (by decide))).mp c54
        exact RET _ _ _ _ _ ⟨hI, fr.trans (fr.rf) hf53 rfl rfl, trivial⟩ hP hS dX12_door_26
    refine lv_icmp_ne (tgt := 19) hx hb dX12_door_12 (by decide) (fun c44 => ?_) (fun c44 => ?_)
    · have c44 : ¬ z43 = 10 := mt (i_eq (rb rz43 (by decide) (by decide)) ⟨by decide, by decide⟩).mpr c44
      refine lv_iconst (v := iI 0) hx hb dX12_door_19 (by decide +kernel) ?_
      exact J20_45 0 _ _ _ (by omega) (by omega) hP hS (lv_sub hl [0, 1] rfl)
    · have c44 : z43 = 10 := (i_eq (rb rz43 (by decide) (by decide)) ⟨by decide, by decide⟩).mp c44
      refine lv_iconst (v := iI 1) hx hb dX12_door_15 (by decide +kernel) ?_
      refine lv_goto (tgt := 20) hx hb dX12_door_16 (by decide) ?_
      exact J20_45 1 _ _ _ (by omega) (by omega) hP hS (lv_sub hl [0, 1] rfl)
