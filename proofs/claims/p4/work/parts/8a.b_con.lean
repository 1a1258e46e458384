def ws_mb_X12_on : List Cond := .code yX12_on cX12_on 5 (some .boolean) :: WX
set_option maxHeartbeats 4000000 in
set_option maxRecDepth 100000 in
theorem mb_X12_on (l : Launch) (dC : Nat → ClassId) (dI : Nat → Nat → Nat) (cB cI cJ cZ cQ : ClassId) (q : Nat → Nat) (A : St) (hI : IM A) : XMi l yX12_on ws_mb_X12_on ({ frames := 4, cells := 0, slots := 0, locals := 92 } : Room) (dC, dI) (tyA cB cI cJ cZ cQ) (WM cI cJ cZ q) A [.ref (q 0)] (fun z u => IM u ∧ fr [13, 14, 15, 18, 41] [1] A u ∧ ((0 ≤ z ∧ z ≤ 1) ∧ (u 0 1 = 0))) := by
  refine x_metz (cc := cX12_on) (maxL := 5) WM_adr (by decide +kernel) rfl (Nat.le_of_ble_eq_true rfl) (fun z u h => h.2.2.1) (fun p e s m below meth c Q AS ls hx hb hml hown hts hK hDD hA0 hP hS hl RET => ?_)
  have hown : s.vm.findClass RX12 = some m.cls := hown
  have hl : lv_has ls 5 [(0, .ref (q 0))] := hl
  have hiX12 : ∀ w ∈ u_ws RX12 TX12 85, w ∈ ws_mb_X12_on := fun w h => List.mem_cons_of_mem _ (wx_lay w h)
  obtain ⟨H, hHe⟩ : ∃ H : Heap, H = s.heap := ⟨_, rfl⟩
  rw [← hHe] at hP
  have hS : va_S AS s.heap H [] := by rw [hHe]; exact hS
  suffices hgo : ∀ locs : List Loc, va_S AS s.heap H locs → W p l e (headSpec ws_mb_X12_on ({ frames := 4, cells := 0, slots := 0, locals := 92 } : Room)).room s m [.ref (q 0)].toArray below meth c H locs 0 0 Q (F0 m 0 ls []) by
    have := hgo [] hS
    rw [hHe] at this
    exact this
  clear hS hHe
  intro locs hS
  refine lv_aload_n hx hb dX12_on_0 rfl (lv_at hl 0 rfl) ?_
  refine va_get (D := (dC, dI)) (ci := 12) (v := .int (iI (A 0 1))) (C := RX12) (T := TX12) (N := 85) hx hb hts hiX12 hown hK hP 0 wm0 rfl 1 (by decide) (hts _ (List.mem_cons_of_mem _ (wl_in_0 _ (List.mem_of_getElem? (i := 3) rfl)))) (fun _ h9 => h9) rfl dX12_on_1 ?_
  have r_A_0_1 : (0 : Int) ≤ (A 0 1) ∧ (A 0 1) ≤ 1600 := hI 0 1
  refine lv_istore_n (lv' := [(1, .int (iI (A 0 1))), (0, .ref (q 0))]) hx hb dX12_on_4 rfl hl (by decide) rfl (fun ls hl => ?_)
  refine lv_aload_n hx hb dX12_on_5 rfl (lv_at hl 1 rfl) ?_
  refine lv_iconst (v := iI 0) hx hb dX12_on_6 (by decide +kernel) ?_
  refine x_put (D := (dC, dI)) (ci := 12) (v := .int (iI 0)) (ty := .int) (C := RX12) (T := TX12) (N := 85) hx hb hts hiX12 tyX12 tyX12_ok nmX12 hown hK hP hDD hS 0 wm0 rfl 1 (by decide) (hts _ (List.mem_cons_of_mem _ (wl_in_0 _ (List.mem_of_getElem? (i := 3) rfl)))) (fun _ h9 => h9) rfl (by decide +kernel) rfl rfl (Nat.le_of_ble_eq_true rfl) dX12_on_7 (wf1 (v := 0)) (fun H locs hP hS => ?_)
  have hI := hI.st (j := 0) (i := 1) (v := 0) (show (0 : Int) ≤ 0 ∧ 0 ≤ 1600 from (by omega))
  refine lv_aload_n hx hb dX12_on_10 rfl (lv_at hl 1 rfl) ?_
  refine lv_iload_n hx hb dX12_on_11 rfl (lv_at hl 0 rfl) ?_
  obtain ⟨A1, hA1⟩ : ∃ A1 : St, A1 = (stA A 0 1 0) := ⟨_, rfl⟩
  rw [← hA1] at hP hI
  have e_A1_12 : A1 0 12 = (A 0 12) := by rw [hA1]; exact rfl
  have r_A_0_12 : (0 : Int) ≤ (A 0 12) ∧ (A 0 12) ≤ 1 := by rw [← e_A1_12]; exact hI 0 12
  refine x_calli (As := [.int (iI (A 0 1))]) (rest := []) ⟨hx, hb, hml, hown, hts⟩ (mb_X12_isWhole l dC dI cB cI cJ cZ cQ q _ (A 0 1) hI r_A_0_1) (cwV 1 hts (goodV (wl_in_8 _ (List.mem_of_getElem? (i := 54) rfl)) (wl_in_8 _ (List.mem_of_getElem? (i := 55) rfl)) (wl_in_8 _ (List.mem_of_getElem? (i := 56) rfl)) (wl_in_0 _ (List.mem_of_getElem? (i := 8) rfl)) (wl_in_8 _ (List.mem_of_getElem? (i := 46) rfl))) rfl rfl rfl (by decide +kernel) ⟨Nat.le_of_ble_eq_true rfl, Nat.le_of_ble_eq_true rfl⟩) hK hDD hA0 hP hS 0 12 wm0 rfl rfl hl.1 (Nat.le_of_ble_eq_true rfl) dX12_on_12 (fun z2 A3 H locs hw4 hP hS => ?_)
  obtain ⟨rfl, hw4⟩ := hw4
  have rz2 : 0 ≤ z2 ∧ z2 ≤ 1 := hw4.1
  refine lv_if_ne (tgt := 32) hx hb dX12_on_15 (by decide) (fun c5 => ?_) (fun c5 => ?_)
  · have c5 : ¬ z2 = 0 := mt (i_eq0 (rb rz2 (by decide) (by decide))).mpr c5
    have gw := hw4.2.out (by omega)
    have ca6 : A1 1 = A 1 := by rw [hA1]; exact rfl
    have ca7 : A1 11 = A 11 := by rw [hA1]; exact rfl
    have ca8 : A1 16 = A 16 := by rw [hA1]; exact rfl
    rw [e_A1_12, ca6, ca7, ca8] at gw
    have gwp : ∀ j : Nat, (j : Int) < A 16 (A 0 12).toNat → 0 ≤ A 1 j ∧ A 1 j ≤ 7 := gw.1
    have gwk : ∀ j : Nat, (j : Int) < A 11 (A 0 12).toNat → wgd (A 1) (A 16 (A 0 12).toNat) ((A 0 1) - 1) j := gw.2
    clear gw
    refine lv_iconst (v := iI 0) hx hb dX12_on_32 (by decide +kernel) ?_
    refine lv_istore_n (lv' := [(2, .int (iI 0)), (1, .int (iI (A 0 1))), (0, .ref (q 0))]) hx hb dX12_on_33 rfl hl (by decide) rfl (fun ls hl => ?_)
    have L34_13 : ∀ (n15 : Nat) (z9 : Int) (A11 : St) (H : Heap) (locs : List Loc) (ls : Array Slot), (0 ≤ z9) → (0 ≤ z9 ∧ z9 ≤ 2147483647) → ((A 16 ((A 0 12)).toNat - z9 + 1).toNat = n15) → IM A11 → fr [18] [] A1 A11 → va_P (dC, dI) vwCl (WM cI cJ cZ q A11) H → va_S AS s.heap H locs → lv_has ls 5 [(2, .int (iI z9)), (1, .int (iI (A 0 1))), (0, .ref (q 0))] → W p l e (headSpec ws_mb_X12_on ({ frames := 4, cells := 0, slots := 0, locals := 92 } : Room)).room s m [.ref (q 0)].toArray below meth c H locs 0 0 Q (F0 m 34 ls []) := by
      intro n15
      induction n15 using Nat.strongRecOn with
      | ind n15 ih14 =>
        intro z9 A11 H locs ls f16 f17 hn15 hI hj10 hP hS hl
        refine lv_iload_n hx hb dX12_on_34 rfl (lv_at hl 0 rfl) ?_
        refine lv_aload_n hx hb dX12_on_35 rfl (lv_at hl 2 rfl) ?_
        refine va_get (D := (dC, dI)) (ci := 12) (v := .ref (q 16)) (C := RX12) (T := TX12) (N := 85) hx hb hts hiX12 hown hK hP 0 wm0 rfl 27 (by decide) (hts _ (List.mem_cons_of_mem _ (wl_in_1 _ (List.mem_of_getElem? (i := 15) rfl)))) (fun _ h9 => h9) rfl dX12_on_36 ?_
        refine lv_aload_n hx hb dX12_on_39 rfl (lv_at hl 2 rfl) ?_
        have e_A11_12 : A11 0 12 = (A 0 12) := (hj10.2 12 rfl).trans e_A1_12
        refine va_get (D := (dC, dI)) (ci := 12) (v := .int (iI (A11 0 12))) (C := RX12) (T := TX12) (N := 85) hx hb hts hiX12 hown hK hP 0 wm0 rfl 12 (by decide) (hts _ (List.mem_cons_of_mem _ (wl_in_4 _ (List.mem_of_getElem? (i := 14) rfl)))) (fun _ h9 => h9) rfl dX12_on_40 ?_
        refine tp_i (y := iI (A 0 12)) (congrArg iI e_A11_12) ?_
        have a_A1_16 : A1 16 = A 16 := by rw [hA1]; exact rfl
        have a_A11_16 : A11 16 = A 16 := (hj10.1 16 (by decide) rfl).trans a_A1_16
        refine x_iald hx hb hK hP 16 1 wm16 rfl (by omega) (by decide) dX12_on_43 (fun z18 hz18 => ?_)
        have rz18 : (0 : Int) ≤ z18 ∧ z18 ≤ 3 := by rw [hz18]; exact hI 16 _
        have hz18 : z18 = A 16 ((A 0 12)).toNat := hz18.trans (congrFun a_A11_16 _)
        refine lv_icmp_ge (tgt := 72) hx hb dX12_on_44 (by decide) (fun c19 => ?_) (fun c19 => ?_)
        · have c19 : z18 ≤ z9 := (i_le (rb rz18 (by decide) (by decide)) (rb f17 (by decide) (by decide))).mp c19
          refine lv_aload_n hx hb dX12_on_72 rfl (lv_at hl 2 rfl) ?_
          refine va_get (D := (dC, dI)) (ci := 12) (v := .ref (q 16)) (C := RX12) (T := TX12) (N := 85) hx hb hts hiX12 hown hK hP 0 wm0 rfl 27 (by decide) (hts _ (List.mem_cons_of_mem _ (wl_in_1 _ (List.mem_of_getElem? (i := 15) rfl)))) (fun _ h9 => h9) rfl dX12_on_73 ?_
          refine lv_aload_n hx hb dX12_on_76 rfl (lv_at hl 2 rfl) ?_
          refine va_get (D := (dC, dI)) (ci := 12) (v := .int (iI (A11 0 12))) (C := RX12) (T := TX12) (N := 85) hx hb hts hiX12 hown hK hP 0 wm0 rfl 12 (by decide) (hts _ (List.mem_cons_of_mem _ (wl_in_4 _ (List.mem_of_getElem? (i := 14) rfl)))) (fun _ h9 => h9) rfl dX12_on_77 ?_
          refine tp_i (y := iI (A 0 12)) (congrArg iI e_A11_12) ?_
          refine x_iald hx hb hK hP 16 1 wm16 rfl (by omega) (by decide) dX12_on_80 (fun z20 hz20 => ?_)
          have rz20 : (0 : Int) ≤ z20 ∧ z20 ≤ 3 := by rw [hz20]; exact hI 16 _
          have hz20 : z20 = A 16 ((A 0 12)).toNat := hz20.trans (congrFun a_A11_16 _)
          have ez20 : z20 = z18 := hz20.trans hz18.symm
          refine lv_istore_n (lv' := [(2, .int (iI z20)), (1, .int (iI (A 0 1))), (0, .ref (q 0))]) hx hb dX12_on_81 rfl hl (by decide) rfl (fun ls hl => ?_)
          refine lv_iconst (v := iI 0) hx hb dX12_on_82 (by decide +kernel) ?_
          refine lv_istore_n (lv' := [(3, .int (iI 0)), (2, .int (iI z20)), (1, .int (iI (A 0 1))), (0, .ref (q 0))]) hx hb dX12_on_83 rfl hl (by decide) rfl (fun ls hl => ?_)
          have L84_26 : ∀ (n28 : Nat) (z21 z22 : Int) (A24 : St) (H : Heap) (locs : List Loc) (ls : Array Slot), (0 ≤ z21) → (0 ≤ z21 ∧ z21 ≤ 2147483647) → (0 ≤ z22 ∧ z22 ≤ 1600) → (Hd (z22 = wlk (A 1) (A 16 (A 0 12).toNat) z21.toNat)) → ((A 11 ((A 0 12)).toNat - z21 + 1).toNat = n28) → IM A24 → fr [13, 14, 15] [] A11 A24 → va_P (dC, dI) vwCl (WM cI cJ cZ q A24) H → va_S AS s.heap H locs → lv_has ls 5 [(3, .int (iI z21)), (2, .int (iI z22)), (1, .int (iI (A 0 1))), (0, .ref (q 0))] → W p l e (headSpec ws_mb_X12_on ({ frames := 4, cells := 0, slots := 0, locals := 92 } : Room)).room s m [.ref (q 0)].toArray below meth c H locs 0 0 Q (F0 m 84 ls []) := by
            intro n28
            induction n28 using Nat.strongRecOn with
            | ind n28 ih27 =>
              intro z21 z22 A24 H locs ls f29 f30 f31 f32 hn28 hI hj23 hP hS hl
              refine lv_iload_n hx hb dX12_on_84 rfl (lv_at hl 0 rfl) ?_
              refine lv_aload_n hx hb dX12_on_85 rfl (lv_at hl 3 rfl) ?_
              refine va_get (D := (dC, dI)) (ci := 12) (v := .ref (q 11)) (C := RX12) (T := TX12) (N := 85) hx hb hts hiX12 hown hK hP 0 wm0 rfl 22 (by decide) (hts _ (List.mem_cons_of_mem _ (wl_in_1 _ (List.mem_of_getElem? (i := 14) rfl)))) (fun _ h9 => h9) rfl dX12_on_86 ?_
              refine lv_aload_n hx hb dX12_on_89 rfl (lv_at hl 3 rfl) ?_
              have e_A24_12 : A24 0 12 = (A 0 12) := (hj23.2 12 rfl).trans e_A11_12
              refine va_get (D := (dC, dI)) (ci := 12) (v := .int (iI (A24 0 12))) (C := RX12) (T := TX12) (N := 85) hx hb hts hiX12 hown hK hP 0 wm0 rfl 12 (by decide) (hts _ (List.mem_cons_of_mem _ (wl_in_4 _ (List.mem_of_getElem? (i := 14) rfl)))) (fun _ h9 => h9) rfl dX12_on_90 ?_
              refine tp_i (y := iI (A 0 12)) (congrArg iI e_A24_12) ?_
              have a_A1_11 : A1 11 = A 11 := by rw [hA1]; exact rfl
              have a_A11_11 : A11 11 = A 11 := (hj10.1 11 (by decide) rfl).trans a_A1_11
              have a_A24_11 : A24 11 = A 11 := (hj23.1 11 (by decide) rfl).trans a_A11_11
              refine x_iald hx hb hK hP 11 1 wm11 rfl (by omega) (by decide) dX12_on_93 (fun z33 hz33 => ?_)
              have rz33 : (0 : Int) ≤ z33 ∧ z33 ≤ 4 := by rw [hz33]; exact hI 11 _
              have hz33 : z33 = A 11 ((A 0 12)).toNat := hz33.trans (congrFun a_A24_11 _)
              refine lv_icmp_ge (tgt := 199) hx hb dX12_on_94 (by decide) (fun c34 => ?_) (fun c34 => ?_)
              · have c34 : z33 ≤ z21 := (i_le (rb rz33 (by decide) (by decide)) (rb f30 (by decide) (by decide))).mp c34
                refine lv_iconst (v := iI 1) hx hb dX12_on_199 (by decide +kernel) ?_
                have e_A1_1 : A1 0 1 = 0 := by rw [hA1]; rfl
                have e_A11_1 : A11 0 1 = 0 := (hj10.2 1 rfl).trans e_A1_1
                have e_A24_1 : A24 0 1 = 0 := (hj23.2 1 rfl).trans e_A11_1
                exact RET 1 _ _ _ _ _ ⟨hI, fr.trans (fr.trans (fr_def hA1 (fr.sf (fr.rf) rfl)) hj10 rfl rfl) hj23 rfl rfl, by omega⟩ hP hS dX12_on_200
              · have c34 : ¬ z33 ≤ z21 := mt (i_le (rb rz33 (by decide) (by decide)) (rb f30 (by decide) (by decide))).mpr c34
                obtain ⟨gk1, gk2, gk3, gk4⟩ := wgd_at (gwk (z21).toNat (by omega)) f32.out
                refine lv_aload_n hx hb dX12_on_97 rfl (lv_at hl 3 rfl) ?_
                refine va_get (D := (dC, dI)) (ci := 12) (v := .ref (q 13)) (C := RX12) (T := TX12) (N := 85) hx hb hts hiX12 hown hK hP 0 wm0 rfl 24 (by decide) (hts _ (List.mem_cons_of_mem _ (wl_in_2 _ (List.mem_of_getElem? (i := 58) rfl)))) (fun _ h9 => h9) rfl dX12_on_98 ?_
                refine lv_aload_n hx hb dX12_on_101 rfl (lv_at hl 3 rfl) ?_
                refine lv_iload_n hx hb dX12_on_102 rfl (lv_at hl 0 rfl) ?_
                refine x_calli (As := [.int (iI z21)]) (rest := [.ref (q 13)]) ⟨hx, hb, hml, hown, hts⟩ (mc_X12_key4 l dC dI cB cI cJ cZ cQ q _ z21 hI (by omega)) (cwV 1 hts (goodV (wl_in_4 _ (List.mem_of_getElem? (i := 44) rfl)) (wl_in_4 _ (List.mem_of_getElem? (i := 45) rfl)) (wl_in_4 _ (List.mem_of_getElem? (i := 46) rfl)) (wl_in_0 _ (List.mem_of_getElem? (i := 8) rfl)) (wl_in_4 _ (List.mem_of_getElem? (i := 41) rfl))) rfl rfl rfl (by decide +kernel) ⟨Nat.le_of_ble_eq_true rfl, Nat.le_of_ble_eq_true rfl⟩) hK hDD hA0 hP hS 0 12 wm0 rfl rfl hl.1 (Nat.le_of_ble_eq_true rfl) dX12_on_103 (fun z35 A36 H locs hw37 hP hS => ?_)
                obtain ⟨rfl, hw37⟩ := hw37
                refine tp_i (y := iI (4 * (A 0 12) + z21)) (congrArg iI (show z35 = 4 * (A 0 12) + z21 by omega)) ?_
                clear hw37 z35
                refine lv_aload_n hx hb dX12_on_106 rfl (lv_at hl 3 rfl) ?_
                refine va_get (D := (dC, dI)) (ci := 12) (v := .ref (q 1)) (C := RX12) (T := TX12) (N := 85) hx hb hts hiX12 hown hK hP 0 wm0 rfl 0 (by decide) (hts _ (List.mem_cons_of_mem _ (wl_in_0 _ (List.mem_of_getElem? (i := 2) rfl)))) (fun _ h9 => h9) rfl dX12_on_107 ?_
                refine lv_iload_n hx hb dX12_on_110 rfl (lv_at hl 1 rfl) ?_
                have a_A1_1 : A1 1 = A 1 := by rw [hA1]; exact rfl
                have a_A11_1 : A11 1 = A 1 := (hj10.1 1 (by decide) rfl).trans a_A1_1
                have a_A24_1 : A24 1 = A 1 := (hj23.1 1 (by decide) rfl).trans a_A11_1
                refine x_iald hx hb hK hP 1 1 wm1 rfl (by omega) (by decide) dX12_on_111 (fun z38 hz38 => ?_)
                have rz38 : (0 : Int) ≤ z38 ∧ z38 ≤ 255 := by rw [hz38]; exact hI 1 _
                have hz38 : z38 = A 1 (z22).toNat := hz38.trans (congrFun a_A24_1 _)
                refine x_iast hx hb hK hP hDD hS 13 1 wm13 rfl (by omega) (by decide) dX12_on_112 ws13 (fun H locs hP hS => ?_)
                have hI := hI.st (j := 13) (i := (4 * (A 0 12) + z21).toNat) (v := z38) (show (0 : Int) ≤ z38 ∧ z38 ≤ 40 from (by omega))
                refine lv_aload_n hx hb dX12_on_113 rfl (lv_at hl 3 rfl) ?_
                refine va_get (D := (dC, dI)) (ci := 12) (v := .ref (q 14)) (C := RX12) (T := TX12) (N := 85) hx hb hts hiX12 hown hK hP 0 wm0 rfl 25 (by decide) (hts _ (List.mem_cons_of_mem _ (wl_in_2 _ (List.mem_of_getElem? (i := 59) rfl)))) (fun _ h9 => h9) rfl dX12_on_114 ?_
                refine lv_aload_n hx hb dX12_on_117 rfl (lv_at hl 3 rfl) ?_
                refine lv_iload_n hx hb dX12_on_118 rfl (lv_at hl 0 rfl) ?_
                obtain ⟨A39, hA39⟩ : ∃ A39 : St, A39 = (stA A24 13 (4 * (A 0 12) + z21).toNat z38) := ⟨_, rfl⟩
                rw [← hA39] at hP hI
                have e_A39_12 : A39 0 12 = (A 0 12) := by rw [hA39]; exact e_A24_12
                refine x_calli (As := [.int (iI z21)]) (rest := [.ref (q 14)]) ⟨hx, hb, hml, hown, hts⟩ (mc_X12_key4 l dC dI cB cI cJ cZ cQ q _ z21 hI (by omega)) (cwV 1 hts (goodV (wl_in_4 _ (List.mem_of_getElem? (i := 44) rfl)) (wl_in_4 _ (List.mem_of_getElem? (i := 45) rfl)) (wl_in_4 _ (List.mem_of_getElem? (i := 46) rfl)) (wl_in_0 _ (List.mem_of_getElem? (i := 8) rfl)) (wl_in_4 _ (List.mem_of_getElem? (i := 41) rfl))) rfl rfl rfl (by decide +kernel) ⟨Nat.le_of_ble_eq_true rfl, Nat.le_of_ble_eq_true rfl⟩) hK hDD hA0 hP hS 0 12 wm0 rfl rfl hl.1 (Nat.le_of_ble_eq_true rfl) dX12_on_119 (fun z40 A41 H locs hw42 hP hS => ?_)
                obtain ⟨rfl, hw42⟩ := hw42
                refine tp_i (y := iI (4 * (A 0 12) + z21)) (congrArg iI (show z40 = 4 * (A 0 12) + z21 by omega)) ?_
                clear hw42 z40
                refine lv_aload_n hx hb dX12_on_122 rfl (lv_at hl 3 rfl) ?_
                refine va_get (D := (dC, dI)) (ci := 12) (v := .ref (q 1)) (C := RX12) (T := TX12) (N := 85) hx hb hts hiX12 hown hK hP 0 wm0 rfl 0 (by decide) (hts _ (List.mem_cons_of_mem _ (wl_in_0 _ (List.mem_of_getElem? (i := 2) rfl)))) (fun _ h9 => h9) rfl dX12_on_123 ?_
                refine lv_iload_n hx hb dX12_on_126 rfl (lv_at hl 1 rfl) ?_
                refine lv_iconst (v := iI 1) hx hb dX12_on_127 (by decide +kernel) ?_
                refine x_addv (v := z22 + 1) hx hb dX12_on_128 (by omega) ?_
                have a_A39_1 : A39 1 = A 1 := by rw [hA39]; exact a_A24_1
                refine x_iald hx hb hK hP 1 1 wm1 rfl (by omega) (by decide) dX12_on_129 (fun z43 hz43 => ?_)
                have rz43 : (0 : Int) ≤ z43 ∧ z43 ≤ 255 := by rw [hz43]; exact hI 1 _
                have hz43 : z43 = A 1 (z22 + 1).toNat := hz43.trans (congrFun a_A39_1 _)
                refine x_iast hx hb hK hP hDD hS 14 1 wm14 rfl (by omega) (by decide) dX12_on_130 ws14 (fun H locs hP hS => ?_)
                have hI := hI.st (j := 14) (i := (4 * (A 0 12) + z21).toNat) (v := z43) (show (0 : Int) ≤ z43 ∧ z43 ≤ 6 from (by omega))
                refine lv_iconst (v := iI 0) hx hb dX12_on_131 (by decide +kernel) ?_
                refine lv_istore (lv' := [(4, .int (iI 0)), (3, .int (iI z21)), (2, .int (iI z22)), (1, .int (iI (A 0 1))), (0, .ref (q 0))]) hx hb dX12_on_132 hl (by decide) rfl (fun ls hl => ?_)
                obtain ⟨A44, hA44⟩ : ∃ A44 : St, A44 = (stA A39 14 (4 * (A 0 12) + z21).toNat z43) := ⟨_, rfl⟩
                rw [← hA44] at hP hI
                have L134_49 : ∀ (n51 : Nat) (z45 : Int) (A47 : St) (H : Heap) (locs : List Loc) (ls : Array Slot), (0 ≤ z45) → (0 ≤ z45 ∧ z45 ≤ 2147483647) → ((A 1 (z22 + 1).toNat - z45 + 1).toNat = n51) → IM A47 → fr [15] [] A44 A47 → va_P (dC, dI) vwCl (WM cI cJ cZ q A47) H → va_S AS s.heap H locs → lv_has ls 5 [(4, .int (iI z45)), (3, .int (iI z21)), (2, .int (iI z22)), (1, .int (iI (A 0 1))), (0, .ref (q 0))] → W p l e (headSpec ws_mb_X12_on ({ frames := 4, cells := 0, slots := 0, locals := 92 } : Room)).room s m [.ref (q 0)].toArray below meth c H locs 0 0 Q (F0 m 134 ls []) := by
                  intro n51
                  induction n51 using Nat.strongRecOn with
                  | ind n51 ih50 =>
                    intro z45 A47 H locs ls f52 f53 hn51 hI hj46 hP hS hl
                    refine lv_iload hx hb dX12_on_134 (lv_at hl 0 rfl) ?_
                    refine lv_aload_n hx hb dX12_on_136 rfl (lv_at hl 4 rfl) ?_
                    refine va_get (D := (dC, dI)) (ci := 12) (v := .ref (q 1)) (C := RX12) (T := TX12) (N := 85) hx hb hts hiX12 hown hK hP 0 wm0 rfl 0 (by decide) (hts _ (List.mem_cons_of_mem _ (wl_in_0 _ (List.mem_of_getElem? (i := 2) rfl)))) (fun _ h9 => h9) rfl dX12_on_137 ?_
                    refine lv_iload_n hx hb dX12_on_140 rfl (lv_at hl 2 rfl) ?_
                    refine lv_iconst (v := iI 1) hx hb dX12_on_141 (by decide +kernel) ?_
                    refine x_addv (v := z22 + 1) hx hb dX12_on_142 (by omega) ?_
                    have a_A44_1 : A44 1 = A 1 := by rw [hA44]; exact a_A39_1
                    have a_A47_1 : A47 1 = A 1 := (hj46.1 1 (by decide) rfl).trans a_A44_1
                    refine x_iald hx hb hK hP 1 1 wm1 rfl (by omega) (by decide) dX12_on_143 (fun z54 hz54 => ?_)
                    have rz54 : (0 : Int) ≤ z54 ∧ z54 ≤ 255 := by rw [hz54]; exact hI 1 _
                    have hz54 : z54 = A 1 (z22 + 1).toNat := hz54.trans (congrFun a_A47_1 _)
                    have ez54 : z54 = z43 := hz54.trans hz43.symm
                    refine lv_icmp_ge (tgt := 180) hx hb dX12_on_144 (by decide) (fun c55 => ?_) (fun c55 => ?_)
                    · have c55 : z54 ≤ z45 := (i_le (rb rz54 (by decide) (by decide)) (rb f53 (by decide) (by decide))).mp c55
                      have gs := wlk_s (t := A 1) (a := A 16 (A 0 12).toNat) (k := z21) (by omega) f32.out rfl
                      refine lv_iload_n hx hb dX12_on_180 rfl (lv_at hl 2 rfl) ?_
                      refine lv_iconst (v := iI 2) hx hb dX12_on_181 (by decide +kernel) ?_
                      refine lv_aload_n hx hb dX12_on_182 rfl (lv_at hl 4 rfl) ?_
                      refine va_get (D := (dC, dI)) (ci := 12) (v := .ref (q 1)) (C := RX12) (T := TX12) (N := 85) hx hb hts hiX12 hown hK hP 0 wm0 rfl 0 (by decide) (hts _ (List.mem_cons_of_mem _ (wl_in_0 _ (List.mem_of_getElem? (i := 2) rfl)))) (fun _ h9 => h9) rfl dX12_on_183 ?_
                      refine lv_iload_n hx hb dX12_on_186 rfl (lv_at hl 2 rfl) ?_
                      refine lv_iconst (v := iI 1) hx hb dX12_on_187 (by decide +kernel) ?_
                      refine x_addv (v := z22 + 1) hx hb dX12_on_188 (by omega) ?_
                      refine x_iald hx hb hK hP 1 1 wm1 rfl (by omega) (by decide) dX12_on_189 (fun z56 hz56 => ?_)
                      have rz56 : (0 : Int) ≤ z56 ∧ z56 ≤ 255 := by rw [hz56]; exact hI 1 _
                      have hz56 : z56 = A 1 (z22 + 1).toNat := hz56.trans (congrFun a_A47_1 _)
                      have ez56 : z56 = z43 := hz56.trans hz43.symm
                      refine x_addv (v := z56 + 2) hx hb dX12_on_190 (by omega) ?_
                      refine x_addv (v := z22 + z56 + 2) hx hb dX12_on_191 (by omega) ?_
                      refine lv_istore_n (lv' := [(2, .int (iI (z22 + z56 + 2))), (4, .int (iI z45)), (3, .int (iI z21)), (1, .int (iI (A 0 1))), (0, .ref (q 0))]) hx hb dX12_on_192 rfl hl (by decide) rfl (fun ls hl => ?_)
                      refine lv_iinc (v := iI (z21 + 1)) (lv' := [(3, .int (iI (z21 + 1))), (2, .int (iI (z22 + z56 + 2))), (4, .int (iI z45)), (1, .int (iI (A 0 1))), (0, .ref (q 0))]) hx hb dX12_on_193 hl (k := 2) rfl (i_inc (by omega)) (by decide) rfl (fun ls hl => ?_)
                      refine lv_goto (tgt := 84) hx hb dX12_on_196 (by decide) ?_
                      exact ih27 _ (by omega) (z21 + 1) (z22 + z56 + 2) _ _ _ _ (by omega) (by omega) (by omega) (by exact Hd.mk (by omega)) rfl hI (fr.trans (fr_def hA44 (fr.st (fr_def hA39 (fr.st (fr.trans (fr.rf) hj23 rfl rfl) (by decide) rfl)) (by decide) rfl)) hj46 rfl rfl) hP hS (lv_sub hl [0, 1, 3, 4] rfl)
                    · have c55 : ¬ z54 ≤ z45 := mt (i_le (rb rz54 (by decide) (by decide)) (rb f53 (by decide) (by decide))).mpr c55
                      refine lv_aload_n hx hb dX12_on_147 rfl (lv_at hl 4 rfl) ?_
                      refine va_get (D := (dC, dI)) (ci := 12) (v := .ref (q 15)) (C := RX12) (T := TX12) (N := 85) hx hb hts hiX12 hown hK hP 0 wm0 rfl 26 (by decide) (hts _ (List.mem_cons_of_mem _ (wl_in_3 _ (List.mem_of_getElem? (i := 7) rfl)))) (fun _ h9 => h9) rfl dX12_on_148 ?_
                      refine lv_bipush (v := iI 10) hx hb dX12_on_151 (by decide +kernel) ?_
                      refine lv_aload_n hx hb dX12_on_153 rfl (lv_at hl 4 rfl) ?_
                      refine lv_iload_n hx hb dX12_on_154 rfl (lv_at hl 1 rfl) ?_
                      have e_A44_12 : A44 0 12 = (A 0 12) := by rw [hA44]; exact e_A39_12
                      have e_A47_12 : A47 0 12 = (A 0 12) := (hj46.2 12 rfl).trans e_A44_12
                      refine x_calli (As := [.int (iI z21)]) (rest := [.int (iI 10), .ref (q 15)]) ⟨hx, hb, hml, hown, hts⟩ (mc_X12_key4 l dC dI cB cI cJ cZ cQ q _ z21 hI (by omega)) (cwV 1 hts (goodV (wl_in_4 _ (List.mem_of_getElem? (i := 44) rfl)) (wl_in_4 _ (List.mem_of_getElem? (i := 45) rfl)) (wl_in_4 _ (List.mem_of_getElem? (i := 46) rfl)) (wl_in_0 _ (List.mem_of_getElem? (i := 8) rfl)) (wl_in_4 _ (List.mem_of_getElem? (i := 41) rfl))) rfl rfl rfl (by decide +kernel) ⟨Nat.le_of_ble_eq_true rfl, Nat.le_of_ble_eq_true rfl⟩) hK hDD hA0 hP hS 0 12 wm0 rfl rfl hl.1 (Nat.le_of_ble_eq_true rfl) dX12_on_155 (fun z57 A58 H locs hw59 hP hS => ?_)
                      obtain ⟨rfl, hw59⟩ := hw59
                      refine tp_i (y := iI (4 * (A 0 12) + z21)) (congrArg iI (show z57 = 4 * (A 0 12) + z21 by omega)) ?_
                      clear hw59 z57
                      refine x_mulv (v := 40 * (A 0 12) + 10 * z21) hx hb dX12_on_158 (by omega) ?_
                      refine lv_iload hx hb dX12_on_159 (lv_at hl 0 rfl) ?_
                      refine x_addv (v := 40 * (A 0 12) + 10 * z21 + z45) hx hb dX12_on_161 (by omega) ?_
                      refine lv_aload_n hx hb dX12_on_162 rfl (lv_at hl 4 rfl) ?_
                      refine va_get (D := (dC, dI)) (ci := 12) (v := .ref (q 1)) (C := RX12) (T := TX12) (N := 85) hx hb hts hiX12 hown hK hP 0 wm0 rfl 0 (by decide) (hts _ (List.mem_cons_of_mem _ (wl_in_0 _ (List.mem_of_getElem? (i := 2) rfl)))) (fun _ h9 => h9) rfl dX12_on_163 ?_
                      refine lv_iload_n hx hb dX12_on_166 rfl (lv_at hl 2 rfl) ?_
                      refine lv_iconst (v := iI 2) hx hb dX12_on_167 (by decide +kernel) ?_
                      refine x_addv (v := z22 + 2) hx hb dX12_on_168 (by omega) ?_
                      refine lv_iload hx hb dX12_on_169 (lv_at hl 0 rfl) ?_
                      refine x_addv (v := z22 + z45 + 2) hx hb dX12_on_171 (by omega) ?_
                      refine x_iald hx hb hK hP 1 1 wm1 rfl (by omega) (by decide) dX12_on_172 (fun z60 hz60 => ?_)
                      have rz60 : (0 : Int) ≤ z60 ∧ z60 ≤ 255 := by rw [hz60]; exact hI 1 _
                      have hz60 : z60 = A 1 (z22 + z45 + 2).toNat := hz60.trans (congrFun a_A47_1 _)
                      have gr : 0 ≤ z60 ∧ z60 ≤ 9 := by have g := gk4 (z45).toNat (by omega); rw [hz60, show (z22 + z45 + 2).toNat = (z22 + 2 + (((z45).toNat : Nat) : Int)).toNat by omega]; exact g
                      refine x_iast hx hb hK hP hDD hS 15 1 wm15 rfl (by omega) (by decide) dX12_on_173 ws15 (fun H locs hP hS => ?_)
                      have hI := hI.st (j := 15) (i := (40 * (A 0 12) + 10 * z21 + z45).toNat) (v := z60) (show (0 : Int) ≤ z60 ∧ z60 ≤ 9 from (by omega))
                      refine lv_iinc (v := iI (z45 + 1)) (lv' := [(4, .int (iI (z45 + 1))), (3, .int (iI z21)), (2, .int (iI z22)), (1, .int (iI (A 0 1))), (0, .ref (q 0))]) hx hb dX12_on_174 hl (k := 0) rfl (i_inc (by omega)) (by decide) rfl (fun ls hl => ?_)
                      refine lv_goto (tgt := 134) hx hb dX12_on_177 (by decide) ?_
                      obtain ⟨A61, hA61⟩ : ∃ A61 : St, A61 = (stA A47 15 (40 * (A 0 12) + 10 * z21 + z45).toNat z60) := ⟨_, rfl⟩
                      rw [← hA61] at hP hI
                      exact ih50 _ (by omega) (z45 + 1) _ _ _ _ (by omega) (by omega) rfl hI (fr_def hA61 (fr.st (fr.trans (fr.rf) hj46 rfl rfl) (by decide) rfl)) hP hS (lv_sub hl [0, 1, 2, 3, 4] rfl)
                exact L134_49 _ 0 _ _ _ _ (by omega) (by omega) rfl hI (fr.rf) hP hS (lv_sub hl [0, 1, 2, 3, 4] rfl)
          exact L84_26 _ 0 z20 _ _ _ _ (by omega) (by omega) (by omega) (by exact Hd.mk (by show _ = A 16 (A 0 12).toNat; omega)) rfl hI (fr.rf) hP hS (lv_sub hl [0, 1, 2, 3] rfl)
        · have c19 : ¬ z18 ≤ z9 := mt (i_le (rb rz18 (by decide) (by decide)) (rb f17 (by decide) (by decide))).mpr c19
          refine lv_aload_n hx hb dX12_on_47 rfl (lv_at hl 2 rfl) ?_
          refine va_get (D := (dC, dI)) (ci := 12) (v := .ref (q 18)) (C := RX12) (T := TX12) (N := 85) hx hb hts hiX12 hown hK hP 0 wm0 rfl 29 (by decide) (hts _ (List.mem_cons_of_mem _ (wl_in_3 _ (List.mem_of_getElem? (i := 4) rfl)))) (fun _ h9 => h9) rfl dX12_on_48 ?_
          refine lv_iconst (v := iI 3) hx hb dX12_on_51 (by decide +kernel) ?_
          refine lv_aload_n hx hb dX12_on_52 rfl (lv_at hl 2 rfl) ?_
          refine va_get (D := (dC, dI)) (ci := 12) (v := .int (iI (A11 0 12))) (C := RX12) (T := TX12) (N := 85) hx hb hts hiX12 hown hK hP 0 wm0 rfl 12 (by decide) (hts _ (List.mem_cons_of_mem _ (wl_in_4 _ (List.mem_of_getElem? (i := 14) rfl)))) (fun _ h9 => h9) rfl dX12_on_53 ?_
          refine tp_i (y := iI (A 0 12)) (congrArg iI e_A11_12) ?_
          refine x_mulv (v := 3 * (A 0 12)) hx hb dX12_on_56 (by omega) ?_
          refine lv_iload_n hx hb dX12_on_57 rfl (lv_at hl 0 rfl) ?_
          refine x_addv (v := 3 * (A 0 12) + z9) hx hb dX12_on_58 (by omega) ?_
          refine lv_aload_n hx hb dX12_on_59 rfl (lv_at hl 2 rfl) ?_
          refine va_get (D := (dC, dI)) (ci := 12) (v := .ref (q 1)) (C := RX12) (T := TX12) (N := 85) hx hb hts hiX12 hown hK hP 0 wm0 rfl 0 (by decide) (hts _ (List.mem_cons_of_mem _ (wl_in_0 _ (List.mem_of_getElem? (i := 2) rfl)))) (fun _ h9 => h9) rfl dX12_on_60 ?_
          refine lv_iload_n hx hb dX12_on_63 rfl (lv_at hl 0 rfl) ?_
          have a_A1_1 : A1 1 = A 1 := by rw [hA1]; exact rfl
          have a_A11_1 : A11 1 = A 1 := (hj10.1 1 (by decide) rfl).trans a_A1_1
          refine x_iald hx hb hK hP 1 1 wm1 rfl (by omega) (by decide) dX12_on_64 (fun z62 hz62 => ?_)
          have rz62 : (0 : Int) ≤ z62 ∧ z62 ≤ 255 := by rw [hz62]; exact hI 1 _
          have hz62 : z62 = A 1 (z9).toNat := hz62.trans (congrFun a_A11_1 _)
          have gp : 0 ≤ z62 ∧ z62 ≤ 7 := by rw [hz62]; exact gwp (z9).toNat (by omega)
          refine x_iast hx hb hK hP hDD hS 18 1 wm18 rfl (by omega) (by decide) dX12_on_65 ws18 (fun H locs hP hS => ?_)
          have hI := hI.st (j := 18) (i := (3 * (A 0 12) + z9).toNat) (v := z62) (show (0 : Int) ≤ z62 ∧ z62 ≤ 7 from (by omega))
          refine lv_iinc (v := iI (z9 + 1)) (lv' := [(2, .int (iI (z9 + 1))), (1, .int (iI (A 0 1))), (0, .ref (q 0))]) hx hb dX12_on_66 hl (k := 0) rfl (i_inc (by omega)) (by decide) rfl (fun ls hl => ?_)
          refine lv_goto (tgt := 34) hx hb dX12_on_69 (by decide) ?_
          obtain ⟨A63, hA63⟩ : ∃ A63 : St, A63 = (stA A11 18 (3 * (A 0 12) + z9).toNat z62) := ⟨_, rfl⟩
          rw [← hA63] at hP hI
          exact ih14 _ (by omega) (z9 + 1) _ _ _ _ (by omega) (by omega) rfl hI (fr_def hA63 (fr.st (fr.trans (fr.rf) hj10 rfl rfl) (by decide) rfl)) hP hS (lv_sub hl [0, 1, 2] rfl)
    exact L34_13 _ 0 _ _ _ _ (by omega) (by omega) rfl hI (fr.rf) hP hS (lv_sub hl [0, 1, 2] rfl)
  · have c5 : z2 = 0 := (i_eq0 (rb rz2 (by decide) (by decide))).mp c5
    refine lv_aload_n hx hb dX12_on_18 rfl (lv_at hl 1 rfl) ?_
    refine lv_iconst (v := iI 5) hx hb dX12_on_19 (by decide +kernel) ?_
    refine x_calli (As := [.int (iI 5)]) (rest := []) ⟨hx, hb, hml, hown, hts⟩ (mc_X12_refuses l dC dI cB cI cJ cZ cQ q _ 5 hI ⟨by decide, by decide⟩) (cwV 1 hts (goodV (wl_in_0 _ (List.mem_of_getElem? (i := 5) rfl)) (wl_in_0 _ (List.mem_of_getElem? (i := 6) rfl)) (wl_in_0 _ (List.mem_of_getElem? (i := 7) rfl)) (wl_in_0 _ (List.mem_of_getElem? (i := 8) rfl)) (wl_in_0 _ (List.mem_of_getElem? (i := 9) rfl))) rfl rfl rfl (by decide +kernel) ⟨Nat.le_of_ble_eq_true rfl, Nat.le_of_ble_eq_true rfl⟩) hK hDD hA0 hP hS 0 12 wm0 rfl rfl hl.1 (Nat.le_of_ble_eq_true rfl) dX12_on_20 (fun z64 A65 H locs hw66 hP hS => ?_)
    obtain ⟨_, hI, hf67, hw66⟩ := hw66
    refine lv_if_lt (tgt := 30) hx hb dX12_on_23 (by decide) (fun _ => ?_) (fun c68 => False.elim (by have c68 : ¬ z64 < 0 := mt (i_lt0 (by omega)).mpr c68; omega))
    refine lv_iconst (v := iI 0) hx hb dX12_on_30 (by decide +kernel) ?_
    have e_A1_1 : A1 0 1 = 0 := by rw [hA1]; rfl
    have e_A65_1 : A65 0 1 = 0 := (hf67.2 1 rfl).trans e_A1_1
    exact RET 0 _ _ _ _ _ ⟨hI, fr.trans (fr_def hA1 (fr.sf (fr.rf) rfl)) hf67 rfl rfl, by omega⟩ hP hS dX12_on_31
