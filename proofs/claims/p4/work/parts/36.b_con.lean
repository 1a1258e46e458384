def ws_mc_X12_agrees : List Cond := .code yX12_agrees cX12_agrees 3 (some .boolean) :: WX
set_option maxHeartbeats 4000000 in
set_option maxRecDepth 100000 in
theorem mc_X12_agrees (l : Launch) (dC : Nat → ClassId) (dI : Nat → Nat → Nat) (cB cI cJ cZ cQ : ClassId) (q : Nat → Nat) (A : St) (hI : IM A) : XMi l yX12_agrees ws_mc_X12_agrees ({ frames := 0, cells := 0, slots := 0, locals := 0 } : Room) (dC, dI) (tyA cB cI cJ cZ cQ) (WM cI cJ cZ q) A [.ref (q 0)] (fun z u => IM u ∧ fr [] [80] A u ∧ (0 ≤ z ∧ z ≤ 1)) := by
  refine x_metz (cc := cX12_agrees) (maxL := 3) WM_adr (by decide +kernel) rfl (Nat.le_of_ble_eq_true rfl) (fun z u h => h.2.2) (fun p e s m below meth c Q AS ls hx hb hml hown hts hK hDD hA0 hP hS hl RET => ?_)
  have hown : s.vm.findClass RX12 = some m.cls := hown
  have hl : lv_has ls 3 [(0, .ref (q 0))] := hl
  have hiX12 : ∀ w ∈ u_ws RX12 TX12 85, w ∈ ws_mc_X12_agrees := fun w h => List.mem_cons_of_mem _ (wx_lay w h)
  obtain ⟨H, hHe⟩ : ∃ H : Heap, H = s.heap := ⟨_, rfl⟩
  rw [← hHe] at hP
  have hS : va_S AS s.heap H [] := by rw [hHe]; exact hS
  suffices hgo : ∀ locs : List Loc, va_S AS s.heap H locs → W p l e (headSpec ws_mc_X12_agrees ({ frames := 0, cells := 0, slots := 0, locals := 0 } : Room)).room s m [.ref (q 0)].toArray below meth c H locs 0 0 Q (F0 m 0 ls []) by
    have := hgo [] hS
    rw [hHe] at this
    exact this
  clear hS hHe
  intro locs hS
  refine lv_aload_n hx hb dX12_agrees_0 rfl (lv_at hl 0 rfl) ?_
  refine lv_aload_n hx hb dX12_agrees_1 rfl (lv_at hl 0 rfl) ?_
  refine va_get (D := (dC, dI)) (ci := 12) (v := .int (iI (A 0 78))) (C := RX12) (T := TX12) (N := 85) hx hb hts hiX12 hown hK hP 0 wm0 rfl 78 (by decide) (hts _ (List.mem_cons_of_mem _ (wl_in_8 _ (List.mem_of_getElem? (i := 8) rfl)))) (fun _ h9 => h9) rfl dX12_agrees_2 ?_
  have r_A_0_78 : (0 : Int) ≤ (A 0 78) ∧ (A 0 78) ≤ 3 := hI 0 78
  refine x_put (D := (dC, dI)) (ci := 12) (v := .int (iI (A 0 78))) (ty := .int) (C := RX12) (T := TX12) (N := 85) hx hb hts hiX12 tyX12 tyX12_ok nmX12 hown hK hP hDD hS 0 wm0 rfl 80 (by decide) (hts _ (List.mem_cons_of_mem _ (wl_in_8 _ (List.mem_of_getElem? (i := 9) rfl)))) (fun _ h9 => h9) rfl (by decide +kernel) rfl rfl (Nat.le_of_ble_eq_true rfl) dX12_agrees_5 (wf80 (v := (A 0 78))) (fun H locs hP hS => ?_)
  have hI := hI.st (j := 0) (i := 80) (v := (A 0 78)) (show (0 : Int) ≤ (A 0 78) ∧ (A 0 78) ≤ 3 from (by omega))
  refine lv_iconst (v := iI 0) hx hb dX12_agrees_8 (by decide +kernel) ?_
  refine lv_istore_n (lv' := [(1, .int (iI 0)), (0, .ref (q 0))]) hx hb dX12_agrees_9 rfl hl (by decide) rfl (fun ls hl => ?_)
  obtain ⟨A1, hA1⟩ : ∃ A1 : St, A1 = (stA A 0 80 (A 0 78)) := ⟨_, rfl⟩
  rw [← hA1] at hP hI
  have L10_5 : ∀ (n7 : Nat) (z2 : Int) (A4 : St) (H : Heap) (locs : List Loc) (ls : Array Slot), (0 ≤ z2) → (0 ≤ z2 ∧ z2 ≤ 2147483647) → (((A 0 75) - z2 + 1).toNat = n7) → IM A4 → fr [] [80] A1 A4 → va_P (dC, dI) vwCl (WM cI cJ cZ q A4) H → va_S AS s.heap H locs → lv_has ls 3 [(1, .int (iI z2)), (0, .ref (q 0))] → W p l e (headSpec ws_mc_X12_agrees ({ frames := 0, cells := 0, slots := 0, locals := 0 } : Room)).room s m [.ref (q 0)].toArray below meth c H locs 0 0 Q (F0 m 10 ls []) := by
    intro n7
    induction n7 using Nat.strongRecOn with
    | ind n7 ih6 =>
      intro z2 A4 H locs ls f8 f9 hn7 hI hj3 hP hS hl
      refine lv_iload_n hx hb dX12_agrees_10 rfl (lv_at hl 0 rfl) ?_
      refine lv_aload_n hx hb dX12_agrees_11 rfl (lv_at hl 1 rfl) ?_
      have e_A1_75 : A1 0 75 = (A 0 75) := by rw [hA1]; exact rfl
      have e_A4_75 : A4 0 75 = (A 0 75) := (hj3.2 75 rfl).trans e_A1_75
      refine va_get (D := (dC, dI)) (ci := 12) (v := .int (iI (A4 0 75))) (C := RX12) (T := TX12) (N := 85) hx hb hts hiX12 hown hK hP 0 wm0 rfl 75 (by decide) (hts _ (List.mem_cons_of_mem _ (wl_in_4 _ (List.mem_of_getElem? (i := 17) rfl)))) (fun _ h9 => h9) rfl dX12_agrees_12 ?_
      refine tp_i (y := iI (A 0 75)) (congrArg iI e_A4_75) ?_
      have r_A_0_75 : (0 : Int) ≤ (A 0 75) ∧ (A 0 75) ≤ 20 := by rw [← e_A4_75]; exact hI 0 75
      refine lv_icmp_ge (tgt := 87) hx hb dX12_agrees_15 (by decide) (fun c10 => ?_) (fun c10 => ?_)
      · have c10 : (A 0 75) ≤ z2 := (i_le (rb r_A_0_75 (by decide) (by decide)) (rb f9 (by decide) (by decide))).mp c10
        refine lv_iconst (v := iI 1) hx hb dX12_agrees_87 (by decide +kernel) ?_
        exact RET 1 _ _ _ _ _ ⟨hI, fr.trans (fr_def hA1 (fr.sf (fr.rf) rfl)) hj3 rfl rfl, by omega⟩ hP hS dX12_agrees_88
      · have c10 : ¬ (A 0 75) ≤ z2 := mt (i_le (rb r_A_0_75 (by decide) (by decide)) (rb f9 (by decide) (by decide))).mpr c10
        refine lv_aload_n hx hb dX12_agrees_18 rfl (lv_at hl 1 rfl) ?_
        refine va_get (D := (dC, dI)) (ci := 12) (v := .int (iI (A4 0 80))) (C := RX12) (T := TX12) (N := 85) hx hb hts hiX12 hown hK hP 0 wm0 rfl 80 (by decide) (hts _ (List.mem_cons_of_mem _ (wl_in_8 _ (List.mem_of_getElem? (i := 9) rfl)))) (fun _ h9 => h9) rfl dX12_agrees_19 ?_
        have r_A4_0_80 : (0 : Int) ≤ (A4 0 80) ∧ (A4 0 80) ≤ 3 := hI 0 80
        have J50_13 : ∀ (z18 : Int) (H : Heap) (locs : List Loc) (ls : Array Slot), (0 ≤ z18 ∧ z18 ≤ 1) → ((z18 = 1 ∧ ¬ (A4 0 80) ≤ 0) ∨ (z18 = 0)) → va_P (dC, dI) vwCl (WM cI cJ cZ q A4) H → va_S AS s.heap H locs → lv_has ls 3 [(1, .int (iI z2)), (0, .ref (q 0))] → W p l e (headSpec ws_mc_X12_agrees ({ frames := 0, cells := 0, slots := 0, locals := 0 } : Room)).room s m [.ref (q 0)].toArray below meth c H locs 0 0 Q (F0 m 50 ls [.int (iI z18)]) := by
          intro z18 H locs ls f20 f21 hP hS hl
          refine lv_istore_n (lv' := [(2, .int (iI z18)), (1, .int (iI z2)), (0, .ref (q 0))]) hx hb dX12_agrees_50 rfl hl (by decide) rfl (fun ls hl => ?_)
          refine lv_iload_n hx hb dX12_agrees_51 rfl (lv_at hl 0 rfl) ?_
          refine lv_aload_n hx hb dX12_agrees_52 rfl (lv_at hl 2 rfl) ?_
          refine va_get (D := (dC, dI)) (ci := 12) (v := .ref (q 53)) (C := RX12) (T := TX12) (N := 85) hx hb hts hiX12 hown hK hP 0 wm0 rfl 77 (by decide) (hts _ (List.mem_cons_of_mem _ (wl_in_8 _ (List.mem_of_getElem? (i := 12) rfl)))) (fun _ h9 => h9) rfl dX12_agrees_53 ?_
          refine lv_iload_n hx hb dX12_agrees_56 rfl (lv_at hl 1 rfl) ?_
          have a_A1_53 : A1 53 = A 53 := by rw [hA1]; exact rfl
          have a_A4_53 : A4 53 = A 53 := (hj3.1 53 (by decide) rfl).trans a_A1_53
          refine x_zald hx hb hK hP 53 3 wm53 rfl (by omega) (by decide) dX12_agrees_57 (fun z22 hz22 => ?_)
          have rz22 : (0 : Int) ≤ z22 ∧ z22 ≤ 1 := by rw [hz22]; exact hI 53 _
          have hz22 : z22 = A 53 (z2).toNat := hz22.trans (congrFun a_A4_53 _)
          refine lv_icmp_eq (tgt := 63) hx hb dX12_agrees_58 (by decide) (fun c23 => ?_) (fun c23 => ?_)
          · have c23 : z18 = z22 := (i_eq (rb f20 (by decide) (by decide)) (rb rz22 (by decide) (by decide))).mp c23
            refine lv_aload_n hx hb dX12_agrees_63 rfl (lv_at hl 2 rfl) ?_
            refine lv_dup hx hb dX12_agrees_64 rfl ?_
            refine va_get (D := (dC, dI)) (ci := 12) (v := .int (iI (A4 0 80))) (C := RX12) (T := TX12) (N := 85) hx hb hts hiX12 hown hK hP 0 wm0 rfl 80 (by decide) (hts _ (List.mem_cons_of_mem _ (wl_in_8 _ (List.mem_of_getElem? (i := 9) rfl)))) (fun _ h9 => h9) rfl dX12_agrees_65 ?_
            refine lv_iload_n hx hb dX12_agrees_68 rfl (lv_at hl 0 rfl) ?_
            have J77_25 : ∀ (z26 : Int) (H : Heap) (locs : List Loc) (ls : Array Slot), (0 ≤ z26 ∧ z26 ≤ 1) → ((z26 = 0 ∧ z18 = 0) ∨ (z26 = 1 ∧ ¬ z18 = 0)) → va_P (dC, dI) vwCl (WM cI cJ cZ q A4) H → va_S AS s.heap H locs → lv_has ls 3 [(2, .int (iI z18)), (1, .int (iI z2)), (0, .ref (q 0))] → W p l e (headSpec ws_mc_X12_agrees ({ frames := 0, cells := 0, slots := 0, locals := 0 } : Room)).room s m [.ref (q 0)].toArray below meth c H locs 0 0 Q (F0 m 77 ls [.int (iI z26), .int (iI (A4 0 80)), .ref (q 0)]) := by
              intro z26 H locs ls f28 f29 hP hS hl
              refine x_subv (v := (A4 0 80) - z26) hx hb dX12_agrees_77 (by omega) ?_
              refine x_put (D := (dC, dI)) (ci := 12) (v := .int (iI ((A4 0 80) - z26))) (ty := .int) (C := RX12) (T := TX12) (N := 85) hx hb hts hiX12 tyX12 tyX12_ok nmX12 hown hK hP hDD hS 0 wm0 rfl 80 (by decide) (hts _ (List.mem_cons_of_mem _ (wl_in_8 _ (List.mem_of_getElem? (i := 9) rfl)))) (fun _ h9 => h9) rfl (by decide +kernel) rfl rfl (Nat.le_of_ble_eq_true rfl) dX12_agrees_78 (wf80 (v := (A4 0 80) - z26)) (fun H locs hP hS => ?_)
              have hI := hI.st (j := 0) (i := 80) (v := (A4 0 80) - z26) (show (0 : Int) ≤ (A4 0 80) - z26 ∧ (A4 0 80) - z26 ≤ 3 from (by omega))
              refine lv_iinc (v := iI (z2 + 1)) (lv' := [(1, .int (iI (z2 + 1))), (2, .int (iI z18)), (0, .ref (q 0))]) hx hb dX12_agrees_81 hl (k := 1) rfl (i_inc (by omega)) (by decide) rfl (fun ls hl => ?_)
              refine lv_goto (tgt := 10) hx hb dX12_agrees_84 (by decide) ?_
              obtain ⟨A30, hA30⟩ : ∃ A30 : St, A30 = (stA A4 0 80 ((A4 0 80) - z26)) := ⟨_, rfl⟩
              rw [← hA30] at hP hI
              exact ih6 _ (by omega) (z2 + 1) _ _ _ _ (by omega) (by omega) rfl hI (fr_def hA30 (fr.sf (fr.trans (fr.rf) hj3 rfl rfl) rfl)) hP hS (lv_sub hl [0, 2] rfl)
            refine lv_if_eq (tgt := 76) hx hb dX12_agrees_69 (by decide) (fun c24 => ?_) (fun c24 => ?_)
            · have c24 : z18 = 0 := (i_eq0 (rb f20 (by decide) (by decide))).mp c24
              refine lv_iconst (v := iI 0) hx hb dX12_agrees_76 (by decide +kernel) ?_
              exact J77_25 0 _ _ _ (by omega) (by omega) hP hS (lv_sub hl [0, 1, 2] rfl)
            · have c24 : ¬ z18 = 0 := mt (i_eq0 (rb f20 (by decide) (by decide))).mpr c24
              refine lv_iconst (v := iI 1) hx hb dX12_agrees_72 (by decide +kernel) ?_
              refine lv_goto (tgt := 77) hx hb dX12_agrees_73 (by decide) ?_
              exact J77_25 1 _ _ _ (by omega) (by omega) hP hS (lv_sub hl [0, 1, 2] rfl)
          · have c23 : ¬ z18 = z22 := mt (i_eq (rb f20 (by decide) (by decide)) (rb rz22 (by decide) (by decide))).mpr c23
            refine lv_iconst (v := iI 0) hx hb dX12_agrees_61 (by decide +kernel) ?_
            exact RET 0 _ _ _ _ _ ⟨hI, fr.trans (fr_def hA1 (fr.sf (fr.rf) rfl)) hj3 rfl rfl, by omega⟩ hP hS dX12_agrees_62
        have J49_12 : ∀ (H : Heap) (locs : List Loc) (ls : Array Slot), va_P (dC, dI) vwCl (WM cI cJ cZ q A4) H → va_S AS s.heap H locs → lv_has ls 3 [(1, .int (iI z2)), (0, .ref (q 0))] → W p l e (headSpec ws_mc_X12_agrees ({ frames := 0, cells := 0, slots := 0, locals := 0 } : Room)).room s m [.ref (q 0)].toArray below meth c H locs 0 0 Q (F0 m 49 ls []) := by
          intro H locs ls hP hS hl
          refine lv_iconst (v := iI 0) hx hb dX12_agrees_49 (by decide +kernel) ?_
          exact J50_13 0 _ _ _ (by omega) (by omega) hP hS (lv_sub hl [0, 1] rfl)
        refine lv_if_le (tgt := 49) hx hb dX12_agrees_22 (by decide) (fun c11 => ?_) (fun c11 => ?_)
        · have c11 : (A4 0 80) ≤ 0 := (i_le0 (rb r_A4_0_80 (by decide) (by decide))).mp c11
          exact J49_12 _ _ _ hP hS (lv_sub hl [0, 1] rfl)
        · have c11 : ¬ (A4 0 80) ≤ 0 := mt (i_le0 (rb r_A4_0_80 (by decide) (by decide))).mpr c11
          refine lv_aload_n hx hb dX12_agrees_25 rfl (lv_at hl 1 rfl) ?_
          refine va_get (D := (dC, dI)) (ci := 12) (v := .ref (q 54)) (C := RX12) (T := TX12) (N := 85) hx hb hts hiX12 hown hK hP 0 wm0 rfl 79 (by decide) (hts _ (List.mem_cons_of_mem _ (wl_in_8 _ (List.mem_of_getElem? (i := 10) rfl)))) (fun _ h9 => h9) rfl dX12_agrees_26 ?_
          refine lv_aload_n hx hb dX12_agrees_29 rfl (lv_at hl 1 rfl) ?_
          refine va_get (D := (dC, dI)) (ci := 12) (v := .int (iI (A4 0 80))) (C := RX12) (T := TX12) (N := 85) hx hb hts hiX12 hown hK hP 0 wm0 rfl 80 (by decide) (hts _ (List.mem_cons_of_mem _ (wl_in_8 _ (List.mem_of_getElem? (i := 9) rfl)))) (fun _ h9 => h9) rfl dX12_agrees_30 ?_
          refine lv_iconst (v := iI 1) hx hb dX12_agrees_33 (by decide +kernel) ?_
          refine x_subv (v := (A4 0 80) - 1) hx hb dX12_agrees_34 (by omega) ?_
          have a_A1_54 : A1 54 = A 54 := by rw [hA1]; exact rfl
          have a_A4_54 : A4 54 = A 54 := (hj3.1 54 (by decide) rfl).trans a_A1_54
          refine x_iald hx hb hK hP 54 1 wm54 rfl (by omega) (by decide) dX12_agrees_35 (fun z14 hz14 => ?_)
          have rz14 : (0 : Int) ≤ z14 ∧ z14 ≤ 9 := by rw [hz14]; exact hI 54 _
          have hz14 : z14 = A 54 ((A4 0 80) - 1).toNat := hz14.trans (congrFun a_A4_54 _)
          refine lv_aload_n hx hb dX12_agrees_36 rfl (lv_at hl 1 rfl) ?_
          refine va_get (D := (dC, dI)) (ci := 12) (v := .ref (q 52)) (C := RX12) (T := TX12) (N := 85) hx hb hts hiX12 hown hK hP 0 wm0 rfl 76 (by decide) (hts _ (List.mem_cons_of_mem _ (wl_in_8 _ (List.mem_of_getElem? (i := 11) rfl)))) (fun _ h9 => h9) rfl dX12_agrees_37 ?_
          refine lv_iload_n hx hb dX12_agrees_40 rfl (lv_at hl 0 rfl) ?_
          have a_A1_52 : A1 52 = A 52 := by rw [hA1]; exact rfl
          have a_A4_52 : A4 52 = A 52 := (hj3.1 52 (by decide) rfl).trans a_A1_52
          refine x_iald hx hb hK hP 52 1 wm52 rfl (by omega) (by decide) dX12_agrees_41 (fun z15 hz15 => ?_)
          have rz15 : (0 : Int) ≤ z15 ∧ z15 ≤ 9 := by rw [hz15]; exact hI 52 _
          have hz15 : z15 = A 52 (z2).toNat := hz15.trans (congrFun a_A4_52 _)
          refine lv_icmp_ne (tgt := 49) hx hb dX12_agrees_42 (by decide) (fun c16 => ?_) (fun c16 => ?_)
          · have c16 : ¬ z14 = z15 := mt (i_eq (rb rz14 (by decide) (by decide)) (rb rz15 (by decide) (by decide))).mpr c16
            exact J49_12 _ _ _ hP hS (lv_sub hl [0, 1] rfl)
          · have c16 : z14 = z15 := (i_eq (rb rz14 (by decide) (by decide)) (rb rz15 (by decide) (by decide))).mp c16
            refine lv_iconst (v := iI 1) hx hb dX12_agrees_45 (by decide +kernel) ?_
            refine lv_goto (tgt := 50) hx hb dX12_agrees_46 (by decide) ?_
            exact J50_13 1 _ _ _ (by omega) (by omega) hP hS (lv_sub hl [0, 1] rfl)
  exact L10_5 _ 0 _ _ _ _ (by omega) (by omega) rfl hI (fr.rf) hP hS (lv_sub hl [0, 1] rfl)

def ws_mc_X12_isRow : List Cond := .code yX12_isRow cX12_isRow 6 (some .boolean) :: WX
set_option maxHeartbeats 4000000 in
set_option maxRecDepth 100000 in
theorem mc_X12_isRow (l : Launch) (dC : Nat → ClassId) (dI : Nat → Nat → Nat) (cB cI cJ cZ cQ : ClassId) (q : Nat → Nat) (A : St) (x1 x2 : Int) (hI : IM A) (hx1 : (0 : Int) ≤ x1 ∧ x1 ≤ 3) (hx2 : (0 : Int) ≤ x2 ∧ x2 ≤ 999) : XMi l yX12_isRow ws_mc_X12_isRow ({ frames := 2, cells := 0, slots := 0, locals := 43 } : Room) (dC, dI) (tyA cB cI cJ cZ cQ) (WM cI cJ cZ q) A [.ref (q 0), .int (iI x1), .int (iI x2)] (fun z u => IM u ∧ fr [54] [78] A u ∧ (0 ≤ z ∧ z ≤ 1)) := by
  refine x_metz (cc := cX12_isRow) (maxL := 6) WM_adr (by decide +kernel) rfl (Nat.le_of_ble_eq_true rfl) (fun z u h => h.2.2) (fun p e s m below meth c Q AS ls hx hb hml hown hts hK hDD hA0 hP hS hl RET => ?_)
  have hown : s.vm.findClass RX12 = some m.cls := hown
  have hl : lv_has ls 6 [(0, .ref (q 0)), (1, .int (iI x1)), (2, .int (iI x2))] := hl
  have hiX12 : ∀ w ∈ u_ws RX12 TX12 85, w ∈ ws_mc_X12_isRow := fun w h => List.mem_cons_of_mem _ (wx_lay w h)
  obtain ⟨H, hHe⟩ : ∃ H : Heap, H = s.heap := ⟨_, rfl⟩
  rw [← hHe] at hP
  have hS : va_S AS s.heap H [] := by rw [hHe]; exact hS
  suffices hgo : ∀ locs : List Loc, va_S AS s.heap H locs → W p l e (headSpec ws_mc_X12_isRow ({ frames := 2, cells := 0, slots := 0, locals := 43 } : Room)).room s m [.ref (q 0), .int (iI x1), .int (iI x2)].toArray below meth c H locs 0 0 Q (F0 m 0 ls []) by
    have := hgo [] hS
    rw [hHe] at this
    exact this
  clear hS hHe
  intro locs hS
  refine lv_aload_n hx hb dX12_isRow_0 rfl (lv_at hl 0 rfl) ?_
  refine lv_iload_n hx hb dX12_isRow_1 rfl (lv_at hl 1 rfl) ?_
  refine x_put (D := (dC, dI)) (ci := 12) (v := .int (iI x1)) (ty := .int) (C := RX12) (T := TX12) (N := 85) hx hb hts hiX12 tyX12 tyX12_ok nmX12 hown hK hP hDD hS 0 wm0 rfl 78 (by decide) (hts _ (List.mem_cons_of_mem _ (wl_in_8 _ (List.mem_of_getElem? (i := 8) rfl)))) (fun _ h9 => h9) rfl (by decide +kernel) rfl rfl (Nat.le_of_ble_eq_true rfl) dX12_isRow_2 (wf78 (v := x1)) (fun H locs hP hS => ?_)
  have hI := hI.st (j := 0) (i := 78) (v := x1) (show (0 : Int) ≤ x1 ∧ x1 ≤ 3 from (by omega))
  refine lv_iload_n hx hb dX12_isRow_5 rfl (lv_at hl 2 rfl) ?_
  refine lv_istore_n (lv' := [(3, .int (iI x2)), (0, .ref (q 0)), (1, .int (iI x1)), (2, .int (iI x2))]) hx hb dX12_isRow_6 rfl hl (by decide) rfl (fun ls hl => ?_)
  refine lv_iload_n hx hb dX12_isRow_7 rfl (lv_at hl 2 rfl) ?_
  refine lv_iconst (v := iI 1) hx hb dX12_isRow_8 (by decide +kernel) ?_
  refine x_subv (v := x1 - 1) hx hb dX12_isRow_9 (by omega) ?_
  refine lv_istore (lv' := [(4, .int (iI (x1 - 1))), (3, .int (iI x2)), (0, .ref (q 0)), (1, .int (iI x1)), (2, .int (iI x2))]) hx hb dX12_isRow_10 hl (by decide) rfl (fun ls hl => ?_)
  obtain ⟨A1, hA1⟩ : ∃ A1 : St, A1 = (stA A 0 78 x1) := ⟨_, rfl⟩
  rw [← hA1] at hP hI
  have L12_6 : ∀ (n8 : Nat) (z2 z3 : Int) (A5 : St) (H : Heap) (locs : List Loc) (ls : Array Slot), (z2 ≤ x1 - 1) → (-2147483648 ≤ z2 ∧ z2 ≤ 2) → (0 ≤ z3 ∧ z3 ≤ 999) → ((z2 - 0 + 1).toNat = n8) → IM A5 → fr [54] [] A1 A5 → va_P (dC, dI) vwCl (WM cI cJ cZ q A5) H → va_S AS s.heap H locs → lv_has ls 6 [(4, .int (iI z2)), (3, .int (iI z3)), (0, .ref (q 0)), (1, .int (iI x1)), (2, .int (iI x2))] → W p l e (headSpec ws_mc_X12_isRow ({ frames := 2, cells := 0, slots := 0, locals := 43 } : Room)).room s m [.ref (q 0), .int (iI x1), .int (iI x2)].toArray below meth c H locs 0 0 Q (F0 m 12 ls []) := by
    intro n8
    induction n8 using Nat.strongRecOn with
    | ind n8 ih7 =>
      intro z2 z3 A5 H locs ls f9 f10 f11 hn8 hI hj4 hP hS hl
      refine lv_iload hx hb dX12_isRow_12 (lv_at hl 0 rfl) ?_
      refine lv_if_lt (tgt := 39) hx hb dX12_isRow_14 (by decide) (fun c12 => ?_) (fun c12 => ?_)
      · have c12 : z2 < 0 := (i_lt0 (rb f10 (by decide) (by decide))).mp c12
        refine lv_iconst (v := iI 0) hx hb dX12_isRow_39 (by decide +kernel) ?_
        refine lv_istore (lv' := [(4, .int (iI 0)), (3, .int (iI z3)), (0, .ref (q 0)), (1, .int (iI x1)), (2, .int (iI x2))]) hx hb dX12_isRow_40 hl (by decide) rfl (fun ls hl => ?_)
        have L42_15 : ∀ (n17 : Nat) (z13 : Int) (H : Heap) (locs : List Loc) (ls : Array Slot), (0 ≤ z13) → (0 ≤ z13 ∧ z13 ≤ 2147483647) → ((x1 - z13 + 1).toNat = n17) → va_P (dC, dI) vwCl (WM cI cJ cZ q A5) H → va_S AS s.heap H locs → lv_has ls 6 [(4, .int (iI z13)), (3, .int (iI z3)), (0, .ref (q 0)), (1, .int (iI x1)), (2, .int (iI x2))] → W p l e (headSpec ws_mc_X12_isRow ({ frames := 2, cells := 0, slots := 0, locals := 43 } : Room)).room s m [.ref (q 0), .int (iI x1), .int (iI x2)].toArray below meth c H locs 0 0 Q (F0 m 42 ls []) := by
          intro n17
          induction n17 using Nat.strongRecOn with
          | ind n17 ih16 =>
            intro z13 H locs ls f18 f19 hn17 hP hS hl
            refine lv_iload hx hb dX12_isRow_42 (lv_at hl 0 rfl) ?_
            refine lv_iload_n hx hb dX12_isRow_44 rfl (lv_at hl 3 rfl) ?_
            refine lv_icmp_ge (tgt := 124) hx hb dX12_isRow_45 (by decide) (fun c20 => ?_) (fun c20 => ?_)
            · have c20 : x1 ≤ z13 := (i_le (rb hx1 (by decide) (by decide)) (rb f19 (by decide) (by decide))).mp c20
              refine lv_iconst (v := iI 1) hx hb dX12_isRow_124 (by decide +kernel) ?_
              exact RET 1 _ _ _ _ _ ⟨hI, fr.trans (fr_def hA1 (fr.sf (fr.rf) rfl)) hj4 rfl rfl, by omega⟩ hP hS dX12_isRow_125
            · have c20 : ¬ x1 ≤ z13 := mt (i_le (rb hx1 (by decide) (by decide)) (rb f19 (by decide) (by decide))).mpr c20
              refine lv_aload_n hx hb dX12_isRow_48 rfl (lv_at hl 2 rfl) ?_
              refine lv_aload_n hx hb dX12_isRow_49 rfl (lv_at hl 2 rfl) ?_
              refine va_get (D := (dC, dI)) (ci := 12) (v := .ref (q 54)) (C := RX12) (T := TX12) (N := 85) hx hb hts hiX12 hown hK hP 0 wm0 rfl 79 (by decide) (hts _ (List.mem_cons_of_mem _ (wl_in_8 _ (List.mem_of_getElem? (i := 10) rfl)))) (fun _ h9 => h9) rfl dX12_isRow_50 ?_
              refine lv_iload hx hb dX12_isRow_53 (lv_at hl 0 rfl) ?_
              refine x_iald hx hb hK hP 54 1 wm54 rfl (by omega) (by decide) dX12_isRow_55 (fun z21 hz21 => ?_)
              have rz21 : (0 : Int) ≤ z21 ∧ z21 ≤ 9 := by rw [hz21]; exact hI 54 _
              have hz21 : z21 = A5 54 (z13).toNat := hz21
              have e_A1_12 : A1 0 12 = (A 0 12) := by rw [hA1]; exact rfl
              have e_A5_12 : A5 0 12 = (A 0 12) := (hj4.2 12 rfl).trans e_A1_12
              have r_A_0_12 : (0 : Int) ≤ (A 0 12) ∧ (A 0 12) ≤ 1 := by rw [← e_A5_12]; exact hI 0 12
              refine x_calli (As := [.int (iI z21)]) (rest := []) ⟨hx, hb, hml, hown, hts⟩ (mc_X12_isDoorB l dC dI cB cI cJ cZ cQ q _ z21 hI (rb rz21 (by decide) (by decide))) (cwV 1 hts (goodV (wl_in_5 _ (List.mem_of_getElem? (i := 14) rfl)) (wl_in_5 _ (List.mem_of_getElem? (i := 15) rfl)) (wl_in_5 _ (List.mem_of_getElem? (i := 16) rfl)) (wl_in_0 _ (List.mem_of_getElem? (i := 8) rfl)) (wl_in_4 _ (List.mem_of_getElem? (i := 38) rfl))) rfl rfl rfl (by decide +kernel) ⟨Nat.le_of_ble_eq_true rfl, Nat.le_of_ble_eq_true rfl⟩) hK hDD hA0 hP hS 0 12 wm0 rfl rfl hl.1 (Nat.le_of_ble_eq_true rfl) dX12_isRow_56 (fun z22 A23 H locs hw24 hP hS => ?_)
              obtain ⟨rfl, hw24⟩ := hw24
              have rz22 : 0 ≤ z22 ∧ z22 ≤ 1 := hw24.1
              refine lv_if_eq (tgt := 81) hx hb dX12_isRow_59 (by decide) (fun c25 => ?_) (fun c25 => ?_)
              · have c25 : z22 = 0 := (i_eq0 (rb rz22 (by decide) (by decide))).mp c25
                clear hw24
                refine lv_iconst (v := iI 0) hx hb dX12_isRow_81 (by decide +kernel) ?_
                exact RET 0 _ _ _ _ _ ⟨hI, fr.trans (fr_def hA1 (fr.sf (fr.rf) rfl)) hj4 rfl rfl, by omega⟩ hP hS dX12_isRow_82
              · have c25 : ¬ z22 = 0 := mt (i_eq0 (rb rz22 (by decide) (by decide))).mpr c25
                have hw24b := hw24.2.mp (by omega)
                clear hw24
                refine lv_aload_n hx hb dX12_isRow_62 rfl (lv_at hl 2 rfl) ?_
                refine va_get (D := (dC, dI)) (ci := 12) (v := .ref (q 10)) (C := RX12) (T := TX12) (N := 85) hx hb hts hiX12 hown hK hP 0 wm0 rfl 21 (by decide) (hts _ (List.mem_cons_of_mem _ (wl_in_2 _ (List.mem_of_getElem? (i := 43) rfl)))) (fun _ h9 => h9) rfl dX12_isRow_63 ?_
                refine lv_aload_n hx hb dX12_isRow_66 rfl (lv_at hl 2 rfl) ?_
                refine lv_aload_n hx hb dX12_isRow_67 rfl (lv_at hl 2 rfl) ?_
                refine va_get (D := (dC, dI)) (ci := 12) (v := .ref (q 54)) (C := RX12) (T := TX12) (N := 85) hx hb hts hiX12 hown hK hP 0 wm0 rfl 79 (by decide) (hts _ (List.mem_cons_of_mem _ (wl_in_8 _ (List.mem_of_getElem? (i := 10) rfl)))) (fun _ h9 => h9) rfl dX12_isRow_68 ?_
                refine lv_iload hx hb dX12_isRow_71 (lv_at hl 0 rfl) ?_
                refine x_iald hx hb hK hP 54 1 wm54 rfl (by omega) (by decide) dX12_isRow_73 (fun z26 hz26 => ?_)
                have rz26 : (0 : Int) ≤ z26 ∧ z26 ≤ 9 := by rw [hz26]; exact hI 54 _
                have hz26 : z26 = A5 54 (z13).toNat := hz26
                have ez26 : z26 = z21 := hz26.trans hz21.symm
                refine x_calli (As := [.int (iI z26)]) (rest := [.ref (q 10)]) ⟨hx, hb, hml, hown, hts⟩ (mc_X12_door10 l dC dI cB cI cJ cZ cQ q _ z26 hI rz26) (cwV 1 hts (goodV (wl_in_4 _ (List.mem_of_getElem? (i := 49) rfl)) (wl_in_4 _ (List.mem_of_getElem? (i := 50) rfl)) (wl_in_4 _ (List.mem_of_getElem? (i := 51) rfl)) (wl_in_0 _ (List.mem_of_getElem? (i := 8) rfl)) (wl_in_4 _ (List.mem_of_getElem? (i := 42) rfl))) rfl rfl rfl (by decide +kernel) ⟨Nat.le_of_ble_eq_true rfl, Nat.le_of_ble_eq_true rfl⟩) hK hDD hA0 hP hS 0 12 wm0 rfl rfl hl.1 (Nat.le_of_ble_eq_true rfl) dX12_isRow_74 (fun z27 A28 H locs hw29 hP hS => ?_)
                obtain ⟨rfl, hw29⟩ := hw29
                refine tp_i (y := iI (10 * (A 0 12) + z26)) (congrArg iI (show z27 = 10 * (A 0 12) + z26 by omega)) ?_
                clear hw29 z27
                have a_A1_10 : A1 10 = A 10 := by rw [hA1]; exact rfl
                have a_A5_10 : A5 10 = A 10 := (hj4.1 10 (by decide) rfl).trans a_A1_10
                refine x_zald hx hb hK hP 10 3 wm10 rfl (by omega) (by decide) dX12_isRow_77 (fun z30 hz30 => ?_)
                have rz30 : (0 : Int) ≤ z30 ∧ z30 ≤ 1 := by rw [hz30]; exact hI 10 _
                have hz30 : z30 = A 10 (10 * (A 0 12) + z26).toNat := hz30.trans (congrFun a_A5_10 _)
                refine lv_if_ne (tgt := 83) hx hb dX12_isRow_78 (by decide) (fun c31 => ?_) (fun c31 => ?_)
                · have c31 : ¬ z30 = 0 := mt (i_eq0 (rb rz30 (by decide) (by decide))).mpr c31
                  refine lv_iconst (v := iI 0) hx hb dX12_isRow_83 (by decide +kernel) ?_
                  refine lv_istore (lv' := [(5, .int (iI 0)), (4, .int (iI z13)), (3, .int (iI z3)), (0, .ref (q 0)), (1, .int (iI x1)), (2, .int (iI x2))]) hx hb dX12_isRow_84 hl (by decide) rfl (fun ls hl => ?_)
                  have L86_34 : ∀ (n36 : Nat) (z32 : Int) (H : Heap) (locs : List Loc) (ls : Array Slot), (0 ≤ z32) → (0 ≤ z32 ∧ z32 ≤ 2147483647) → ((z13 - z32 + 1).toNat = n36) → va_P (dC, dI) vwCl (WM cI cJ cZ q A5) H → va_S AS s.heap H locs → lv_has ls 6 [(5, .int (iI z32)), (4, .int (iI z13)), (3, .int (iI z3)), (0, .ref (q 0)), (1, .int (iI x1)), (2, .int (iI x2))] → W p l e (headSpec ws_mc_X12_isRow ({ frames := 2, cells := 0, slots := 0, locals := 43 } : Room)).room s m [.ref (q 0), .int (iI x1), .int (iI x2)].toArray below meth c H locs 0 0 Q (F0 m 86 ls []) := by
                    intro n36
                    induction n36 using Nat.strongRecOn with
                    | ind n36 ih35 =>
                      intro z32 H locs ls f37 f38 hn36 hP hS hl
                      refine lv_iload hx hb dX12_isRow_86 (lv_at hl 0 rfl) ?_
                      refine lv_iload hx hb dX12_isRow_88 (lv_at hl 1 rfl) ?_
                      refine lv_icmp_ge (tgt := 118) hx hb dX12_isRow_90 (by decide) (fun c39 => ?_) (fun c39 => ?_)
                      · have c39 : z13 ≤ z32 := (i_le (rb f19 (by decide) (by decide)) (rb f38 (by decide) (by decide))).mp c39
                        refine lv_iinc (v := iI (z13 + 1)) (lv' := [(4, .int (iI (z13 + 1))), (5, .int (iI z32)), (3, .int (iI z3)), (0, .ref (q 0)), (1, .int (iI x1)), (2, .int (iI x2))]) hx hb dX12_isRow_118 hl (k := 1) rfl (i_inc (by omega)) (by decide) rfl (fun ls hl => ?_)
                        refine lv_goto (tgt := 42) hx hb dX12_isRow_121 (by decide) ?_
                        exact ih16 _ (by omega) (z13 + 1) _ _ _ (by omega) (by omega) rfl hP hS (lv_sub hl [0, 2, 3, 4, 5] rfl)
                      · have c39 : ¬ z13 ≤ z32 := mt (i_le (rb f19 (by decide) (by decide)) (rb f38 (by decide) (by decide))).mpr c39
                        refine lv_aload_n hx hb dX12_isRow_93 rfl (lv_at hl 3 rfl) ?_
                        refine va_get (D := (dC, dI)) (ci := 12) (v := .ref (q 54)) (C := RX12) (T := TX12) (N := 85) hx hb hts hiX12 hown hK hP 0 wm0 rfl 79 (by decide) (hts _ (List.mem_cons_of_mem _ (wl_in_8 _ (List.mem_of_getElem? (i := 10) rfl)))) (fun _ h9 => h9) rfl dX12_isRow_94 ?_
                        refine lv_iload hx hb dX12_isRow_97 (lv_at hl 0 rfl) ?_
                        refine x_iald hx hb hK hP 54 1 wm54 rfl (by omega) (by decide) dX12_isRow_99 (fun z40 hz40 => ?_)
                        have rz40 : (0 : Int) ≤ z40 ∧ z40 ≤ 9 := by rw [hz40]; exact hI 54 _
                        have hz40 : z40 = A5 54 (z32).toNat := hz40
                        refine lv_aload_n hx hb dX12_isRow_100 rfl (lv_at hl 3 rfl) ?_
                        refine va_get (D := (dC, dI)) (ci := 12) (v := .ref (q 54)) (C := RX12) (T := TX12) (N := 85) hx hb hts hiX12 hown hK hP 0 wm0 rfl 79 (by decide) (hts _ (List.mem_cons_of_mem _ (wl_in_8 _ (List.mem_of_getElem? (i := 10) rfl)))) (fun _ h9 => h9) rfl dX12_isRow_101 ?_
                        refine lv_iload hx hb dX12_isRow_104 (lv_at hl 1 rfl) ?_
                        refine x_iald hx hb hK hP 54 1 wm54 rfl (by omega) (by decide) dX12_isRow_106 (fun z41 hz41 => ?_)
                        have rz41 : (0 : Int) ≤ z41 ∧ z41 ≤ 9 := by rw [hz41]; exact hI 54 _
                        have hz41 : z41 = A5 54 (z13).toNat := hz41
                        have ez41 : z41 = z21 := hz41.trans hz21.symm
                        refine lv_icmp_ne (tgt := 112) hx hb dX12_isRow_107 (by decide) (fun c42 => ?_) (fun c42 => ?_)
                        · have c42 : ¬ z40 = z41 := mt (i_eq (rb rz40 (by decide) (by decide)) (rb rz41 (by decide) (by decide))).mpr c42
                          refine lv_iinc (v := iI (z32 + 1)) (lv' := [(5, .int (iI (z32 + 1))), (4, .int (iI z13)), (3, .int (iI z3)), (0, .ref (q 0)), (1, .int (iI x1)), (2, .int (iI x2))]) hx hb dX12_isRow_112 hl (k := 0) rfl (i_inc (by omega)) (by decide) rfl (fun ls hl => ?_)
                          refine lv_goto (tgt := 86) hx hb dX12_isRow_115 (by decide) ?_
                          exact ih35 _ (by omega) (z32 + 1) _ _ _ (by omega) (by omega) rfl hP hS (lv_sub hl [0, 1, 2, 3, 4, 5] rfl)
                        · have c42 : z40 = z41 := (i_eq (rb rz40 (by decide) (by decide)) (rb rz41 (by decide) (by decide))).mp c42
                          refine lv_iconst (v := iI 0) hx hb dX12_isRow_110 (by decide +kernel) ?_
                          exact RET 0 _ _ _ _ _ ⟨hI, fr.trans (fr_def hA1 (fr.sf (fr.rf) rfl)) hj4 rfl rfl, by omega⟩ hP hS dX12_isRow_111
                  exact L86_34 _ 0 _ _ _ (by omega) (by omega) rfl hP hS (lv_sub hl [0, 1, 2, 3, 4, 5] rfl)
                · have c31 : z30 = 0 := (i_eq0 (rb rz30 (by decide) (by decide))).mp c31
                  refine lv_iconst (v := iI 0) hx hb dX12_isRow_81 (by decide +kernel) ?_
                  exact RET 0 _ _ _ _ _ ⟨hI, fr.trans (fr_def hA1 (fr.sf (fr.rf) rfl)) hj4 rfl rfl, by omega⟩ hP hS dX12_isRow_82
        exact L42_15 _ 0 _ _ _ (by omega) (by omega) rfl hP hS (lv_sub hl [0, 1, 2, 3, 4] rfl)
      · have c12 : ¬ z2 < 0 := mt (i_lt0 (rb f10 (by decide) (by decide))).mpr c12
        refine lv_aload_n hx hb dX12_isRow_17 rfl (lv_at hl 2 rfl) ?_
        refine va_get (D := (dC, dI)) (ci := 12) (v := .ref (q 54)) (C := RX12) (T := TX12) (N := 85) hx hb hts hiX12 hown hK hP 0 wm0 rfl 79 (by decide) (hts _ (List.mem_cons_of_mem _ (wl_in_8 _ (List.mem_of_getElem? (i := 10) rfl)))) (fun _ h9 => h9) rfl dX12_isRow_18 ?_
        refine lv_iload hx hb dX12_isRow_21 (lv_at hl 0 rfl) ?_
        refine lv_iload_n hx hb dX12_isRow_23 rfl (lv_at hl 1 rfl) ?_
        refine lv_bipush (v := iI 10) hx hb dX12_isRow_24 (by decide +kernel) ?_
        refine x_rem hx hb dX12_isRow_26 (by omega) (by omega) (fun z43 hz43 hz43b => ?_)
        refine x_iast hx hb hK hP hDD hS 54 1 wm54 rfl (by omega) (by decide) dX12_isRow_27 ws54 (fun H locs hP hS => ?_)
        have hI := hI.st (j := 54) (i := (z2).toNat) (v := z43) (show (0 : Int) ≤ z43 ∧ z43 ≤ 9 from (by omega))
        refine lv_iload_n hx hb dX12_isRow_28 rfl (lv_at hl 1 rfl) ?_
        refine lv_bipush (v := iI 10) hx hb dX12_isRow_29 (by decide +kernel) ?_
        refine x_div hx hb dX12_isRow_31 (by omega) (by omega) (fun z44 hz44 hz44b => ?_)
        refine lv_istore_n (lv' := [(3, .int (iI z44)), (4, .int (iI z2)), (0, .ref (q 0)), (1, .int (iI x1)), (2, .int (iI x2))]) hx hb dX12_isRow_32 rfl hl (by decide) rfl (fun ls hl => ?_)
        refine lv_iinc (v := iI (z2 - 1)) (lv' := [(4, .int (iI (z2 - 1))), (3, .int (iI z44)), (0, .ref (q 0)), (1, .int (iI x1)), (2, .int (iI x2))]) hx hb dX12_isRow_33 hl (k := 1) rfl (i_inc (by omega)) (by decide) rfl (fun ls hl => ?_)
        refine lv_goto (tgt := 12) hx hb dX12_isRow_36 (by decide) ?_
        obtain ⟨A45, hA45⟩ : ∃ A45 : St, A45 = (stA A5 54 (z2).toNat z43) := ⟨_, rfl⟩
        rw [← hA45] at hP hI
        exact ih7 _ (by omega) (z2 - 1) z44 _ _ _ _ (by omega) (by omega) (by omega) rfl hI (fr_def hA45 (fr.st (fr.trans (fr.rf) hj4 rfl rfl) (by decide) rfl)) hP hS (lv_sub hl [0, 1, 2, 3, 4] rfl)
  exact L12_6 _ (x1 - 1) x2 _ _ _ _ (by omega) (by omega) (by omega) rfl hI (fr.rf) hP hS (lv_sub hl [0, 1, 2, 3, 4] rfl)

def ws_mc_X12_fitting : List Cond := .code yX12_fitting cX12_fitting 6 (some .int) :: WX
set_option maxHeartbeats 4000000 in
set_option maxRecDepth 100000 in
theorem mc_X12_fitting (l : Launch) (dC : Nat → ClassId) (dI : Nat → Nat → Nat) (cB cI cJ cZ cQ : ClassId) (q : Nat → Nat) (A : St) (x1 : Int) (hI : IM A) (hx1 : (-2147483648 : Int) ≤ x1 ∧ x1 ≤ 2147483647) : XMi l yX12_fitting ws_mc_X12_fitting ({ frames := 3, cells := 0, slots := 0, locals := 68 } : Room) (dC, dI) (tyA cB cI cJ cZ cQ) (WM cI cJ cZ q) A [.ref (q 0), .int (iI x1)] (fun z u => IM u ∧ fr [54] [78, 80] A u ∧ (-2147483648 ≤ z ∧ z ≤ 2147483647)) := by
  refine x_meti (cc := cX12_fitting) (maxL := 6) WM_adr (by decide +kernel) rfl (Nat.le_of_ble_eq_true rfl) (fun p e s m below meth c Q AS ls hx hb hml hown hts hK hDD hA0 hP hS hl RET => ?_)
  have hown : s.vm.findClass RX12 = some m.cls := hown
  have hl : lv_has ls 6 [(0, .ref (q 0)), (1, .int (iI x1))] := hl
  have hiX12 : ∀ w ∈ u_ws RX12 TX12 85, w ∈ ws_mc_X12_fitting := fun w h => List.mem_cons_of_mem _ (wx_lay w h)
  obtain ⟨H, hHe⟩ : ∃ H : Heap, H = s.heap := ⟨_, rfl⟩
  rw [← hHe] at hP
  have hS : va_S AS s.heap H [] := by rw [hHe]; exact hS
  suffices hgo : ∀ locs : List Loc, va_S AS s.heap H locs → W p l e (headSpec ws_mc_X12_fitting ({ frames := 3, cells := 0, slots := 0, locals := 68 } : Room)).room s m [.ref (q 0), .int (iI x1)].toArray below meth c H locs 0 0 Q (F0 m 0 ls []) by
    have := hgo [] hS
    rw [hHe] at this
    exact this
  clear hS hHe
  intro locs hS
  refine lv_iconst (v := iI 0) hx hb dX12_fitting_0 (by decide +kernel) ?_
  refine lv_istore_n (lv' := [(2, .int (iI 0)), (0, .ref (q 0)), (1, .int (iI x1))]) hx hb dX12_fitting_1 rfl hl (by decide) rfl (fun ls hl => ?_)
  refine lv_iconst (v := iI 1) hx hb dX12_fitting_2 (by decide +kernel) ?_
  refine lv_istore_n (lv' := [(3, .int (iI 1)), (2, .int (iI 0)), (0, .ref (q 0)), (1, .int (iI x1))]) hx hb dX12_fitting_3 rfl hl (by decide) rfl (fun ls hl => ?_)
  refine lv_iconst (v := iI 0) hx hb dX12_fitting_4 (by decide +kernel) ?_
  refine lv_istore (lv' := [(4, .int (iI 0)), (3, .int (iI 1)), (2, .int (iI 0)), (0, .ref (q 0)), (1, .int (iI x1))]) hx hb dX12_fitting_5 hl (by decide) rfl (fun ls hl => ?_)
  have L7_6 : ∀ (n8 : Nat) (z1 z2 z3 : Int) (A5 : St) (H : Heap) (locs : List Loc) (ls : Array Slot), (0 ≤ z1) → (0 ≤ z1 ∧ z1 ≤ 4) → (1 ≤ z2 ∧ z2 ≤ 10000) → (-2147483648 ≤ z3 ∧ z3 ≤ 2147483647) → ((z1 = 0 → z2 = 1) ∧ (z1 = 1 → z2 = 10) ∧ (z1 = 2 → z2 = 100) ∧ (z1 = 3 → z2 = 1000)) → ((3 - z1 + 1).toNat = n8) → IM A5 → fr [54] [78, 80] A A5 → va_P (dC, dI) vwCl (WM cI cJ cZ q A5) H → va_S AS s.heap H locs → lv_has ls 6 [(4, .int (iI z1)), (3, .int (iI z2)), (2, .int (iI z3)), (0, .ref (q 0)), (1, .int (iI x1))] → W p l e (headSpec ws_mc_X12_fitting ({ frames := 3, cells := 0, slots := 0, locals := 68 } : Room)).room s m [.ref (q 0), .int (iI x1)].toArray below meth c H locs 0 0 Q (F0 m 7 ls []) := by
    intro n8
    induction n8 using Nat.strongRecOn with
    | ind n8 ih7 =>
      intro z1 z2 z3 A5 H locs ls f9 f10 f11 f12 f13 hn8 hI hj4 hP hS hl
      refine lv_iload hx hb dX12_fitting_7 (lv_at hl 0 rfl) ?_
      refine lv_iconst (v := iI 3) hx hb dX12_fitting_9 (by decide +kernel) ?_
      refine lv_icmp_gt (tgt := 92) hx hb dX12_fitting_10 (by decide) (fun c14 => ?_) (fun c14 => ?_)
      · have c14 : 3 < z1 := (i_lt ⟨by decide, by decide⟩ (rb f10 (by decide) (by decide))).mp c14
        refine lv_iload_n hx hb dX12_fitting_92 rfl (lv_at hl 2 rfl) ?_
        exact RET z3 _ _ _ _ _ ⟨hI, fr.trans (fr.rf) hj4 rfl rfl, by omega⟩ hP hS dX12_fitting_93
      · have c14 : ¬ 3 < z1 := mt (i_lt ⟨by decide, by decide⟩ (rb f10 (by decide) (by decide))).mpr c14
        refine lv_iconst (v := iI 0) hx hb dX12_fitting_13 (by decide +kernel) ?_
        refine lv_istore (lv' := [(5, .int (iI 0)), (4, .int (iI z1)), (3, .int (iI z2)), (2, .int (iI z3)), (0, .ref (q 0)), (1, .int (iI x1))]) hx hb dX12_fitting_14 hl (by decide) rfl (fun ls hl => ?_)
        have L16_19 : ∀ (n21 : Nat) (z15 z16 : Int) (A18 : St) (H : Heap) (locs : List Loc) (ls : Array Slot), (0 ≤ z15) → (0 ≤ z15 ∧ z15 ≤ 2147483647) → (-2147483648 ≤ z16 ∧ z16 ≤ 2147483647) → ((z2 - z15 + 1).toNat = n21) → IM A18 → fr [54] [78, 80] A5 A18 → va_P (dC, dI) vwCl (WM cI cJ cZ q A18) H → va_S AS s.heap H locs → lv_has ls 6 [(5, .int (iI z15)), (4, .int (iI z1)), (3, .int (iI z2)), (2, .int (iI z16)), (0, .ref (q 0)), (1, .int (iI x1))] → W p l e (headSpec ws_mc_X12_fitting ({ frames := 3, cells := 0, slots := 0, locals := 68 } : Room)).room s m [.ref (q 0), .int (iI x1)].toArray below meth c H locs 0 0 Q (F0 m 16 ls []) := by
          intro n21
          induction n21 using Nat.strongRecOn with
          | ind n21 ih20 =>
            intro z15 z16 A18 H locs ls f22 f23 f24 hn21 hI hj17 hP hS hl
            refine lv_iload hx hb dX12_fitting_16 (lv_at hl 0 rfl) ?_
            refine lv_iload_n hx hb dX12_fitting_18 rfl (lv_at hl 2 rfl) ?_
            refine lv_icmp_ge (tgt := 81) hx hb dX12_fitting_19 (by decide) (fun c25 => ?_) (fun c25 => ?_)
            · have c25 : z2 ≤ z15 := (i_le (rb f11 (by decide) (by decide)) (rb f23 (by decide) (by decide))).mp c25
              refine lv_iload_n hx hb dX12_fitting_81 rfl (lv_at hl 2 rfl) ?_
              refine lv_bipush (v := iI 10) hx hb dX12_fitting_82 (by decide +kernel) ?_
              refine x_mulv (v := 10 * z2) hx hb dX12_fitting_84 (by omega) ?_
              refine lv_istore_n (lv' := [(3, .int (iI (10 * z2))), (5, .int (iI z15)), (4, .int (iI z1)), (2, .int (iI z16)), (0, .ref (q 0)), (1, .int (iI x1))]) hx hb dX12_fitting_85 rfl hl (by decide) rfl (fun ls hl => ?_)
              refine lv_iinc (v := iI (z1 + 1)) (lv' := [(4, .int (iI (z1 + 1))), (3, .int (iI (10 * z2))), (5, .int (iI z15)), (2, .int (iI z16)), (0, .ref (q 0)), (1, .int (iI x1))]) hx hb dX12_fitting_86 hl (k := 2) rfl (i_inc (by omega)) (by decide) rfl (fun ls hl => ?_)
              refine lv_goto (tgt := 7) hx hb dX12_fitting_89 (by decide) ?_
              exact ih7 _ (by omega) (z1 + 1) (10 * z2) z16 _ _ _ _ (by omega) (by omega) (by omega) (by omega) (by omega) rfl hI (fr.trans (fr.trans (fr.rf) hj4 rfl rfl) hj17 rfl rfl) hP hS (lv_sub hl [0, 1, 3, 4, 5] rfl)
            · have c25 : ¬ z2 ≤ z15 := mt (i_le (rb f11 (by decide) (by decide)) (rb f23 (by decide) (by decide))).mpr c25
              refine lv_iload_n hx hb dX12_fitting_22 rfl (lv_at hl 3 rfl) ?_
              refine lv_aload_n hx hb dX12_fitting_23 rfl (lv_at hl 4 rfl) ?_
              refine lv_iload hx hb dX12_fitting_24 (lv_at hl 1 rfl) ?_
              refine lv_iload hx hb dX12_fitting_26 (lv_at hl 0 rfl) ?_
              refine x_calli (As := [.int (iI z1), .int (iI z15)]) (rest := [.int (iI z16)]) ⟨hx, hb, hml, hown, hts⟩ (mc_X12_isRow l dC dI cB cI cJ cZ cQ q _ z1 z15 hI (by omega) (by omega)) (cwV 2 hts (goodV (wl_in_8 _ (List.mem_of_getElem? (i := 15) rfl)) (wl_in_8 _ (List.mem_of_getElem? (i := 16) rfl)) (wl_in_8 _ (List.mem_of_getElem? (i := 17) rfl)) (wl_in_0 _ (List.mem_of_getElem? (i := 8) rfl)) (wl_in_8 _ (List.mem_of_getElem? (i := 13) rfl))) rfl rfl rfl (by decide +kernel) ⟨Nat.le_of_ble_eq_true rfl, Nat.le_of_ble_eq_true rfl⟩) hK hDD hA0 hP hS 0 12 wm0 rfl rfl hl.1 (Nat.le_of_ble_eq_true rfl) dX12_fitting_28 (fun z26 A27 H locs hw28 hP hS => ?_)
              obtain ⟨hI, hf29, hw28⟩ := hw28
              have J73_32 : ∀ (z46 : Int) (A48 : St) (H : Heap) (locs : List Loc) (ls : Array Slot), (0 ≤ z46 ∧ z46 ≤ 1) → ((z46 = 1 ∧ ¬ z26 = 0) ∨ (z46 = 0)) → IM A48 → fr [] [80] A27 A48 → va_P (dC, dI) vwCl (WM cI cJ cZ q A48) H → va_S AS s.heap H locs → lv_has ls 6 [(5, .int (iI z15)), (4, .int (iI z1)), (3, .int (iI z2)), (2, .int (iI z16)), (0, .ref (q 0)), (1, .int (iI x1))] → W p l e (headSpec ws_mc_X12_fitting ({ frames := 3, cells := 0, slots := 0, locals := 68 } : Room)).room s m [.ref (q 0), .int (iI x1)].toArray below meth c H locs 0 0 Q (F0 m 73 ls [.int (iI z46), .int (iI z16)]) := by
                intro z46 A48 H locs ls f49 f50 hI hj47 hP hS hl
                refine x_addv (v := z16 + z46) hx hb dX12_fitting_73 (by omega) ?_
                refine x_abs (fun z51 hz51 => ?_)
                refine lv_istore_n (lv' := [(2, .int (iI z51)), (5, .int (iI z15)), (4, .int (iI z1)), (3, .int (iI z2)), (0, .ref (q 0)), (1, .int (iI x1))]) hx hb dX12_fitting_74 rfl hl (by decide) rfl (fun ls hl => ?_)
                refine lv_iinc (v := iI (z15 + 1)) (lv' := [(5, .int (iI (z15 + 1))), (2, .int (iI z51)), (4, .int (iI z1)), (3, .int (iI z2)), (0, .ref (q 0)), (1, .int (iI x1))]) hx hb dX12_fitting_75 hl (k := 1) rfl (i_inc (by omega)) (by decide) rfl (fun ls hl => ?_)
                refine lv_goto (tgt := 16) hx hb dX12_fitting_78 (by decide) ?_
                exact ih20 _ (by omega) (z15 + 1) z51 _ _ _ _ (by omega) (by omega) (by omega) rfl hI (fr.trans (fr.trans (fr.trans (fr.rf) hj17 rfl rfl) hf29 rfl rfl) hj47 rfl rfl) hP hS (lv_sub hl [0, 2, 3, 1, 4, 5] rfl)
              have J72_31 : ∀ (A45 : St) (H : Heap) (locs : List Loc) (ls : Array Slot), IM A45 → fr [] [80] A27 A45 → va_P (dC, dI) vwCl (WM cI cJ cZ q A45) H → va_S AS s.heap H locs → lv_has ls 6 [(5, .int (iI z15)), (4, .int (iI z1)), (3, .int (iI z2)), (2, .int (iI z16)), (0, .ref (q 0)), (1, .int (iI x1))] → W p l e (headSpec ws_mc_X12_fitting ({ frames := 3, cells := 0, slots := 0, locals := 68 } : Room)).room s m [.ref (q 0), .int (iI x1)].toArray below meth c H locs 0 0 Q (F0 m 72 ls [.int (iI z16)]) := by
                intro A45 H locs ls hI hj44 hP hS hl
                refine lv_iconst (v := iI 0) hx hb dX12_fitting_72 (by decide +kernel) ?_
                exact J73_32 0 _ _ _ _ (by omega) (by omega) hI (fr.trans (fr.rf) hj44 rfl rfl) hP hS (lv_sub hl [0, 1, 2, 3, 4, 5] rfl)
              refine lv_if_eq (tgt := 72) hx hb dX12_fitting_31 (by decide) (fun c30 => ?_) (fun c30 => ?_)
              · have c30 : z26 = 0 := (i_eq0 (rb hw28 (by decide) (by decide))).mp c30
                exact J72_31 _ _ _ _ hI (fr.rf) hP hS (lv_sub hl [0, 1, 2, 3, 4, 5] rfl)
              · have c30 : ¬ z26 = 0 := mt (i_eq0 (rb hw28 (by decide) (by decide))).mpr c30
                refine lv_aload_n hx hb dX12_fitting_34 rfl (lv_at hl 4 rfl) ?_
                refine x_calli (As := []) (rest := [.int (iI z16)]) ⟨hx, hb, hml, hown, hts⟩ (mc_X12_agrees l dC dI cB cI cJ cZ cQ q _ hI) (cwV 0 hts (goodV (wl_in_8 _ (List.mem_of_getElem? (i := 18) rfl)) (wl_in_8 _ (List.mem_of_getElem? (i := 19) rfl)) (wl_in_8 _ (List.mem_of_getElem? (i := 20) rfl)) (wl_in_0 _ (List.mem_of_getElem? (i := 8) rfl)) (wl_in_8 _ (List.mem_of_getElem? (i := 7) rfl))) rfl rfl rfl (by decide +kernel) ⟨Nat.le_of_ble_eq_true rfl, Nat.le_of_ble_eq_true rfl⟩) hK hDD hA0 hP hS 0 12 wm0 rfl rfl hl.1 (Nat.le_of_ble_eq_true rfl) dX12_fitting_35 (fun z33 A34 H locs hw35 hP hS => ?_)
                obtain ⟨hI, hf36, hw35⟩ := hw35
                refine lv_if_eq (tgt := 72) hx hb dX12_fitting_38 (by decide) (fun c37 => ?_) (fun c37 => ?_)
                · have c37 : z33 = 0 := (i_eq0 (rb hw35 (by decide) (by decide))).mp c37
                  exact J72_31 _ _ _ _ hI (fr.trans (fr.rf) hf36 rfl rfl) hP hS (lv_sub hl [0, 1, 2, 3, 4, 5] rfl)
                · have c37 : ¬ z33 = 0 := mt (i_eq0 (rb hw35 (by decide) (by decide))).mpr c37
                  refine lv_iload_n hx hb dX12_fitting_41 rfl (lv_at hl 5 rfl) ?_
                  refine lv_iconst (v := iI (-1)) hx hb dX12_fitting_42 (by decide +kernel) ?_
                  have J68_39 : ∀ (H : Heap) (locs : List Loc) (ls : Array Slot), va_P (dC, dI) vwCl (WM cI cJ cZ q A34) H → va_S AS s.heap H locs → lv_has ls 6 [(5, .int (iI z15)), (4, .int (iI z1)), (3, .int (iI z2)), (2, .int (iI z16)), (0, .ref (q 0)), (1, .int (iI x1))] → W p l e (headSpec ws_mc_X12_fitting ({ frames := 3, cells := 0, slots := 0, locals := 68 } : Room)).room s m [.ref (q 0), .int (iI x1)].toArray below meth c H locs 0 0 Q (F0 m 68 ls [.int (iI z16)]) := by
                    intro H locs ls hP hS hl
                    refine lv_iconst (v := iI 1) hx hb dX12_fitting_68 (by decide +kernel) ?_
                    refine lv_goto (tgt := 73) hx hb dX12_fitting_69 (by decide) ?_
                    exact J73_32 1 _ _ _ _ (by omega) (by omega) hI (fr.trans (fr.rf) hf36 rfl rfl) hP hS (lv_sub hl [0, 1, 2, 3, 4, 5] rfl)
                  refine lv_icmp_eq (tgt := 68) hx hb dX12_fitting_43 (by decide) (fun c38 => ?_) (fun c38 => ?_)
                  · have c38 : x1 = (-1) := (i_eq hx1 ⟨by decide, by decide⟩).mp c38
                    exact J68_39 _ _ _ hP hS (lv_sub hl [0, 1, 2, 3, 4, 5] rfl)
                  · have c38 : ¬ x1 = (-1) := mt (i_eq hx1 ⟨by decide, by decide⟩).mpr c38
                    refine lv_aload_n hx hb dX12_fitting_46 rfl (lv_at hl 4 rfl) ?_
                    refine va_get (D := (dC, dI)) (ci := 12) (v := .int (iI (A34 0 80))) (C := RX12) (T := TX12) (N := 85) hx hb hts hiX12 hown hK hP 0 wm0 rfl 80 (by decide) (hts _ (List.mem_cons_of_mem _ (wl_in_8 _ (List.mem_of_getElem? (i := 9) rfl)))) (fun _ h9 => h9) rfl dX12_fitting_47 ?_
                    have r_A34_0_80 : (0 : Int) ≤ (A34 0 80) ∧ (A34 0 80) ≤ 3 := hI 0 80
                    refine lv_if_le (tgt := 72) hx hb dX12_fitting_50 (by decide) (fun c40 => ?_) (fun c40 => ?_)
                    · have c40 : (A34 0 80) ≤ 0 := (i_le0 (rb r_A34_0_80 (by decide) (by decide))).mp c40
                      exact J72_31 _ _ _ _ hI (fr.trans (fr.rf) hf36 rfl rfl) hP hS (lv_sub hl [0, 1, 2, 3, 4, 5] rfl)
                    · have c40 : ¬ (A34 0 80) ≤ 0 := mt (i_le0 (rb r_A34_0_80 (by decide) (by decide))).mpr c40
                      refine lv_aload_n hx hb dX12_fitting_53 rfl (lv_at hl 4 rfl) ?_
                      refine va_get (D := (dC, dI)) (ci := 12) (v := .ref (q 54)) (C := RX12) (T := TX12) (N := 85) hx hb hts hiX12 hown hK hP 0 wm0 rfl 79 (by decide) (hts _ (List.mem_cons_of_mem _ (wl_in_8 _ (List.mem_of_getElem? (i := 10) rfl)))) (fun _ h9 => h9) rfl dX12_fitting_54 ?_
                      refine lv_aload_n hx hb dX12_fitting_57 rfl (lv_at hl 4 rfl) ?_
                      refine va_get (D := (dC, dI)) (ci := 12) (v := .int (iI (A34 0 80))) (C := RX12) (T := TX12) (N := 85) hx hb hts hiX12 hown hK hP 0 wm0 rfl 80 (by decide) (hts _ (List.mem_cons_of_mem _ (wl_in_8 _ (List.mem_of_getElem? (i := 9) rfl)))) (fun _ h9 => h9) rfl dX12_fitting_58 ?_
                      refine lv_iconst (v := iI 1) hx hb dX12_fitting_61 (by decide +kernel) ?_
                      refine x_subv (v := (A34 0 80) - 1) hx hb dX12_fitting_62 (by omega) ?_
                      have a_A34_54 : A34 54 = A27 54 := (hf36.1 54 (by decide) rfl)
                      refine x_iald hx hb hK hP 54 1 wm54 rfl (by omega) (by decide) dX12_fitting_63 (fun z41 hz41 => ?_)
                      have rz41 : (0 : Int) ≤ z41 ∧ z41 ≤ 9 := by rw [hz41]; exact hI 54 _
                      have hz41 : z41 = A27 54 ((A34 0 80) - 1).toNat := hz41.trans (congrFun a_A34_54 _)
                      refine lv_iload_n hx hb dX12_fitting_64 rfl (lv_at hl 5 rfl) ?_
                      refine lv_icmp_ne (tgt := 72) hx hb dX12_fitting_65 (by decide) (fun c42 => ?_) (fun c42 => ?_)
                      · have c42 : ¬ z41 = x1 := mt (i_eq (rb rz41 (by decide) (by decide)) hx1).mpr c42
                        exact J72_31 _ _ _ _ hI (fr.trans (fr.rf) hf36 rfl rfl) hP hS (lv_sub hl [0, 1, 2, 3, 4, 5] rfl)
                      · have c42 : z41 = x1 := (i_eq (rb rz41 (by decide) (by decide)) hx1).mp c42
                        exact J68_39 _ _ _ hP hS (lv_sub hl [0, 1, 2, 3, 4, 5] rfl)
        exact L16_19 _ 0 z3 _ _ _ _ (by omega) (by omega) (by omega) rfl hI (fr.rf) hP hS (lv_sub hl [0, 1, 2, 3, 4, 5] rfl)
  exact L7_6 _ 0 1 0 _ _ _ _ (by omega) (by omega) (by omega) (by omega) (by omega) rfl hI (fr.rf) hP hS (lv_sub hl [0, 1, 2, 3, 4] rfl)

def ws_mc_X12_trial : List Cond := .code yX12_trial cX12_trial 3 (some .int) :: WX
set_option maxHeartbeats 4000000 in
set_option maxRecDepth 100000 in
theorem mc_X12_trial (l : Launch) (dC : Nat → ClassId) (dI : Nat → Nat → Nat) (cB cI cJ cZ cQ : ClassId) (q : Nat → Nat) (A : St) (x1 x2 : Int) (hI : IM A) (hx1 : (-2147483648 : Int) ≤ x1 ∧ x1 ≤ 2147483647) (hx2 : (0 : Int) ≤ x2 ∧ x2 ≤ 1) : XMi l yX12_trial ws_mc_X12_trial ({ frames := 4, cells := 0, slots := 0, locals := 93 } : Room) (dC, dI) (tyA cB cI cJ cZ cQ) (WM cI cJ cZ q) A [.ref (q 0), .int (iI x1), .int (iI x2)] (fun z u => IM u ∧ fr [41, 52, 53, 54] [75, 78, 80] A u ∧ (-2147483648 ≤ z ∧ z ≤ 2147483647)) := by
  refine x_meti (cc := cX12_trial) (maxL := 3) WM_adr (by decide +kernel) rfl (Nat.le_of_ble_eq_true rfl) (fun p e s m below meth c Q AS ls hx hb hml hown hts hK hDD hA0 hP hS hl RET => ?_)
  have hown : s.vm.findClass RX12 = some m.cls := hown
  have hl : lv_has ls 3 [(0, .ref (q 0)), (1, .int (iI x1)), (2, .int (iI x2))] := hl
  have hiX12 : ∀ w ∈ u_ws RX12 TX12 85, w ∈ ws_mc_X12_trial := fun w h => List.mem_cons_of_mem _ (wx_lay w h)
  obtain ⟨H, hHe⟩ : ∃ H : Heap, H = s.heap := ⟨_, rfl⟩
  rw [← hHe] at hP
  have hS : va_S AS s.heap H [] := by rw [hHe]; exact hS
  suffices hgo : ∀ locs : List Loc, va_S AS s.heap H locs → W p l e (headSpec ws_mc_X12_trial ({ frames := 4, cells := 0, slots := 0, locals := 93 } : Room)).room s m [.ref (q 0), .int (iI x1), .int (iI x2)].toArray below meth c H locs 0 0 Q (F0 m 0 ls []) by
    have := hgo [] hS
    rw [hHe] at this
    exact this
  clear hS hHe
  intro locs hS
  refine lv_aload_n hx hb dX12_trial_0 rfl (lv_at hl 0 rfl) ?_
  refine lv_iload_n hx hb dX12_trial_1 rfl (lv_at hl 1 rfl) ?_
  have r_A_0_12 : (0 : Int) ≤ (A 0 12) ∧ (A 0 12) ≤ 1 := hI 0 12
  refine x_calli (As := [.int (iI x1)]) (rest := []) ⟨hx, hb, hml, hown, hts⟩ (mc_X12_isDoorB l dC dI cB cI cJ cZ cQ q _ x1 hI hx1) (cwV 1 hts (goodV (wl_in_5 _ (List.mem_of_getElem? (i := 14) rfl)) (wl_in_5 _ (List.mem_of_getElem? (i := 15) rfl)) (wl_in_5 _ (List.mem_of_getElem? (i := 16) rfl)) (wl_in_0 _ (List.mem_of_getElem? (i := 8) rfl)) (wl_in_4 _ (List.mem_of_getElem? (i := 38) rfl))) rfl rfl rfl (by decide +kernel) ⟨Nat.le_of_ble_eq_true rfl, Nat.le_of_ble_eq_true rfl⟩) hK hDD hA0 hP hS 0 12 wm0 rfl rfl hl.1 (Nat.le_of_ble_eq_true rfl) dX12_trial_2 (fun z1 A2 H locs hw3 hP hS => ?_)
  obtain ⟨rfl, hw3⟩ := hw3
  have rz1 : 0 ≤ z1 ∧ z1 ≤ 1 := hw3.1
  refine lv_if_eq (tgt := 17) hx hb dX12_trial_5 (by decide) (fun c4 => ?_) (fun c4 => ?_)
  · have c4 : z1 = 0 := (i_eq0 (rb rz1 (by decide) (by decide))).mp c4
    clear hw3
    refine lv_aload_n hx hb dX12_trial_17 rfl (lv_at hl 0 rfl) ?_
    refine lv_iconst (v := iI 4) hx hb dX12_trial_18 (by decide +kernel) ?_
    refine x_calli (As := [.int (iI 4)]) (rest := []) ⟨hx, hb, hml, hown, hts⟩ (mc_X12_refuses l dC dI cB cI cJ cZ cQ q _ 4 hI ⟨by decide, by decide⟩) (cwV 1 hts (goodV (wl_in_0 _ (List.mem_of_getElem? (i := 5) rfl)) (wl_in_0 _ (List.mem_of_getElem? (i := 6) rfl)) (wl_in_0 _ (List.mem_of_getElem? (i := 7) rfl)) (wl_in_0 _ (List.mem_of_getElem? (i := 8) rfl)) (wl_in_0 _ (List.mem_of_getElem? (i := 9) rfl))) rfl rfl rfl (by decide +kernel) ⟨Nat.le_of_ble_eq_true rfl, Nat.le_of_ble_eq_true rfl⟩) hK hDD hA0 hP hS 0 12 wm0 rfl rfl hl.1 (Nat.le_of_ble_eq_true rfl) dX12_trial_19 (fun z5 A6 H locs hw7 hP hS => ?_)
    obtain ⟨_, hI, hf8, hw7⟩ := hw7
    exact RET z5 _ _ _ _ _ ⟨hI, fr.trans (fr.rf) hf8 rfl rfl, by omega⟩ hP hS dX12_trial_22
  · have c4 : ¬ z1 = 0 := mt (i_eq0 (rb rz1 (by decide) (by decide))).mpr c4
    have hw3b := hw3.2.mp (by omega)
    clear hw3
    refine lv_aload_n hx hb dX12_trial_8 rfl (lv_at hl 0 rfl) ?_
    refine va_get (D := (dC, dI)) (ci := 12) (v := .int (iI (A 0 75))) (C := RX12) (T := TX12) (N := 85) hx hb hts hiX12 hown hK hP 0 wm0 rfl 75 (by decide) (hts _ (List.mem_cons_of_mem _ (wl_in_4 _ (List.mem_of_getElem? (i := 17) rfl)))) (fun _ h9 => h9) rfl dX12_trial_9 ?_
    have r_A_0_75 : (0 : Int) ≤ (A 0 75) ∧ (A 0 75) ≤ 20 := hI 0 75
    refine lv_bipush (v := iI 20) hx hb dX12_trial_12 (by decide +kernel) ?_
    refine lv_icmp_ne (tgt := 23) hx hb dX12_trial_14 (by decide) (fun c9 => ?_) (fun c9 => ?_)
    · have c9 : ¬ (A 0 75) = 20 := mt (i_eq (rb r_A_0_75 (by decide) (by decide)) ⟨by decide, by decide⟩).mpr c9
      refine lv_aload_n hx hb dX12_trial_23 rfl (lv_at hl 0 rfl) ?_
      refine va_get (D := (dC, dI)) (ci := 12) (v := .ref (q 52)) (C := RX12) (T := TX12) (N := 85) hx hb hts hiX12 hown hK hP 0 wm0 rfl 76 (by decide) (hts _ (List.mem_cons_of_mem _ (wl_in_8 _ (List.mem_of_getElem? (i := 11) rfl)))) (fun _ h9 => h9) rfl dX12_trial_24 ?_
      refine lv_aload_n hx hb dX12_trial_27 rfl (lv_at hl 0 rfl) ?_
      refine va_get (D := (dC, dI)) (ci := 12) (v := .int (iI (A 0 75))) (C := RX12) (T := TX12) (N := 85) hx hb hts hiX12 hown hK hP 0 wm0 rfl 75 (by decide) (hts _ (List.mem_cons_of_mem _ (wl_in_4 _ (List.mem_of_getElem? (i := 17) rfl)))) (fun _ h9 => h9) rfl dX12_trial_28 ?_
      refine lv_iload_n hx hb dX12_trial_31 rfl (lv_at hl 1 rfl) ?_
      refine x_iast hx hb hK hP hDD hS 52 1 wm52 rfl (by omega) (by decide) dX12_trial_32 ws52 (fun H locs hP hS => ?_)
      have hI := hI.st (j := 52) (i := ((A 0 75)).toNat) (v := x1) (show (0 : Int) ≤ x1 ∧ x1 ≤ 9 from (by omega))
      refine lv_aload_n hx hb dX12_trial_33 rfl (lv_at hl 0 rfl) ?_
      refine va_get (D := (dC, dI)) (ci := 12) (v := .ref (q 53)) (C := RX12) (T := TX12) (N := 85) hx hb hts hiX12 hown hK hP 0 wm0 rfl 77 (by decide) (hts _ (List.mem_cons_of_mem _ (wl_in_8 _ (List.mem_of_getElem? (i := 12) rfl)))) (fun _ h9 => h9) rfl dX12_trial_34 ?_
      refine lv_aload_n hx hb dX12_trial_37 rfl (lv_at hl 0 rfl) ?_
      refine va_get (D := (dC, dI)) (ci := 12) (v := .int (iI (A 0 75))) (C := RX12) (T := TX12) (N := 85) hx hb hts hiX12 hown hK hP 0 wm0 rfl 75 (by decide) (hts _ (List.mem_cons_of_mem _ (wl_in_4 _ (List.mem_of_getElem? (i := 17) rfl)))) (fun _ h9 => h9) rfl dX12_trial_38 ?_
      refine lv_iload_n hx hb dX12_trial_41 rfl (lv_at hl 2 rfl) ?_
      refine x_zast hx hb hK hP hDD hS 53 3 wm53 rfl (by omega) (by decide) dX12_trial_42 (by omega) ws53 (fun H locs hP hS => ?_)
      have hI := hI.st (j := 53) (i := ((A 0 75)).toNat) (v := x2) (show (0 : Int) ≤ x2 ∧ x2 ≤ 1 from (by omega))
      refine lv_aload_n hx hb dX12_trial_43 rfl (lv_at hl 0 rfl) ?_
      refine lv_dup hx hb dX12_trial_44 rfl ?_
      refine va_get (D := (dC, dI)) (ci := 12) (v := .int (iI (A 0 75))) (C := RX12) (T := TX12) (N := 85) hx hb hts hiX12 hown hK hP 0 wm0 rfl 75 (by decide) (hts _ (List.mem_cons_of_mem _ (wl_in_4 _ (List.mem_of_getElem? (i := 17) rfl)))) (fun _ h9 => h9) rfl dX12_trial_45 ?_
      refine lv_iconst (v := iI 1) hx hb dX12_trial_48 (by decide +kernel) ?_
      refine x_addv (v := (A 0 75) + 1) hx hb dX12_trial_49 (by omega) ?_
      refine x_put (D := (dC, dI)) (ci := 12) (v := .int (iI ((A 0 75) + 1))) (ty := .int) (C := RX12) (T := TX12) (N := 85) hx hb hts hiX12 tyX12 tyX12_ok nmX12 hown hK hP hDD hS 0 wm0 rfl 75 (by decide) (hts _ (List.mem_cons_of_mem _ (wl_in_4 _ (List.mem_of_getElem? (i := 17) rfl)))) (fun _ h9 => h9) rfl (by decide +kernel) rfl rfl (Nat.le_of_ble_eq_true rfl) dX12_trial_50 (wf75 (v := (A 0 75) + 1)) (fun H locs hP hS => ?_)
      have hI := hI.st (j := 0) (i := 75) (v := (A 0 75) + 1) (show (0 : Int) ≤ (A 0 75) + 1 ∧ (A 0 75) + 1 ≤ 20 from (by omega))
      refine lv_aload_n hx hb dX12_trial_53 rfl (lv_at hl 0 rfl) ?_
      refine lv_iconst (v := iI (-1)) hx hb dX12_trial_54 (by decide +kernel) ?_
      obtain ⟨A10, hA10⟩ : ∃ A10 : St, A10 = (stA (stA (stA A 52 ((A 0 75)).toNat x1) 53 ((A 0 75)).toNat x2) 0 75 ((A 0 75) + 1)) := ⟨_, rfl⟩
      rw [← hA10] at hP hI
      refine x_calli (As := [.int (iI (-1))]) (rest := []) ⟨hx, hb, hml, hown, hts⟩ (mc_X12_fitting l dC dI cB cI cJ cZ cQ q _ (-1) hI ⟨by decide, by decide⟩) (cwV 1 hts (goodV (wl_in_8 _ (List.mem_of_getElem? (i := 22) rfl)) (wl_in_8 _ (List.mem_of_getElem? (i := 23) rfl)) (wl_in_8 _ (List.mem_of_getElem? (i := 24) rfl)) (wl_in_0 _ (List.mem_of_getElem? (i := 8) rfl)) (wl_in_8 _ (List.mem_of_getElem? (i := 14) rfl))) rfl rfl rfl (by decide +kernel) ⟨Nat.le_of_ble_eq_true rfl, Nat.le_of_ble_eq_true rfl⟩) hK hDD hA0 hP hS 0 12 wm0 rfl rfl hl.1 (Nat.le_of_ble_eq_true rfl) dX12_trial_55 (fun z11 A12 H locs hw13 hP hS => ?_)
      obtain ⟨hI, hf14, hw13⟩ := hw13
      exact RET z11 _ _ _ _ _ ⟨hI, fr.trans (fr_def hA10 (fr.sf (fr.st (fr.st (fr.rf) (by decide) rfl) (by decide) rfl) rfl)) hf14 rfl rfl, by omega⟩ hP hS dX12_trial_58
    · have c9 : (A 0 75) = 20 := (i_eq (rb r_A_0_75 (by decide) (by decide)) ⟨by decide, by decide⟩).mp c9
      refine lv_aload_n hx hb dX12_trial_17 rfl (lv_at hl 0 rfl) ?_
      refine lv_iconst (v := iI 4) hx hb dX12_trial_18 (by decide +kernel) ?_
      refine x_calli (As := [.int (iI 4)]) (rest := []) ⟨hx, hb, hml, hown, hts⟩ (mc_X12_refuses l dC dI cB cI cJ cZ cQ q _ 4 hI ⟨by decide, by decide⟩) (cwV 1 hts (goodV (wl_in_0 _ (List.mem_of_getElem? (i := 5) rfl)) (wl_in_0 _ (List.mem_of_getElem? (i := 6) rfl)) (wl_in_0 _ (List.mem_of_getElem? (i := 7) rfl)) (wl_in_0 _ (List.mem_of_getElem? (i := 8) rfl)) (wl_in_0 _ (List.mem_of_getElem? (i := 9) rfl))) rfl rfl rfl (by decide +kernel) ⟨Nat.le_of_ble_eq_true rfl, Nat.le_of_ble_eq_true rfl⟩) hK hDD hA0 hP hS 0 12 wm0 rfl rfl hl.1 (Nat.le_of_ble_eq_true rfl) dX12_trial_19 (fun z15 A16 H locs hw17 hP hS => ?_)
      obtain ⟨_, hI, hf18, hw17⟩ := hw17
      exact RET z15 _ _ _ _ _ ⟨hI, fr.trans (fr.rf) hf18 rfl rfl, by omega⟩ hP hS dX12_trial_22

def ws_mc_X12_fits : List Cond := .code yX12_fits cX12_fits 5 (some .int) :: WX
set_option maxHeartbeats 4000000 in
set_option maxRecDepth 100000 in
theorem mc_X12_fits (l : Launch) (dC : Nat → ClassId) (dI : Nat → Nat → Nat) (cB cI cJ cZ cQ : ClassId) (q : Nat → Nat) (A : St) (x1 : Int) (hI : IM A) (hx1 : (-2147483648 : Int) ≤ x1 ∧ x1 ≤ 2147483647) : XMi l yX12_fits ws_mc_X12_fits ({ frames := 4, cells := 0, slots := 0, locals := 93 } : Room) (dC, dI) (tyA cB cI cJ cZ cQ) (WM cI cJ cZ q) A [.ref (q 0), .int (iI x1)] (fun z u => IM u ∧ fr [54] [78, 80] A u ∧ (-2147483648 ≤ z ∧ z ≤ 2147483647)) := by
  refine x_meti (cc := cX12_fits) (maxL := 5) WM_adr (by decide +kernel) rfl (Nat.le_of_ble_eq_true rfl) (fun p e s m below meth c Q AS ls hx hb hml hown hts hK hDD hA0 hP hS hl RET => ?_)
  have hown : s.vm.findClass RX12 = some m.cls := hown
  have hl : lv_has ls 5 [(0, .ref (q 0)), (1, .int (iI x1))] := hl
  have hiX12 : ∀ w ∈ u_ws RX12 TX12 85, w ∈ ws_mc_X12_fits := fun w h => List.mem_cons_of_mem _ (wx_lay w h)
  obtain ⟨H, hHe⟩ : ∃ H : Heap, H = s.heap := ⟨_, rfl⟩
  rw [← hHe] at hP
  have hS : va_S AS s.heap H [] := by rw [hHe]; exact hS
  suffices hgo : ∀ locs : List Loc, va_S AS s.heap H locs → W p l e (headSpec ws_mc_X12_fits ({ frames := 4, cells := 0, slots := 0, locals := 93 } : Room)).room s m [.ref (q 0), .int (iI x1)].toArray below meth c H locs 0 0 Q (F0 m 0 ls []) by
    have := hgo [] hS
    rw [hHe] at this
    exact this
  clear hS hHe
  intro locs hS
  refine lv_iload_n hx hb dX12_fits_0 rfl (lv_at hl 1 rfl) ?_
  refine lv_iconst (v := iI (-1)) hx hb dX12_fits_1 (by decide +kernel) ?_
  refine lv_icmp_ne (tgt := 11) hx hb dX12_fits_2 (by decide) (fun c1 => ?_) (fun c1 => ?_)
  · have c1 : ¬ x1 = (-1) := mt (i_eq hx1 ⟨by decide, by decide⟩).mpr c1
    refine lv_iconst (v := iI 1) hx hb dX12_fits_11 (by decide +kernel) ?_
    refine lv_istore_n (lv' := [(2, .int (iI 1)), (0, .ref (q 0)), (1, .int (iI x1))]) hx hb dX12_fits_12 rfl hl (by decide) rfl (fun ls hl => ?_)
    refine lv_iconst (v := iI 0) hx hb dX12_fits_13 (by decide +kernel) ?_
    refine lv_istore_n (lv' := [(3, .int (iI 0)), (2, .int (iI 1)), (0, .ref (q 0)), (1, .int (iI x1))]) hx hb dX12_fits_14 rfl hl (by decide) rfl (fun ls hl => ?_)
    have L15_6 : ∀ (n8 : Nat) (z2 z3 : Int) (A5 : St) (H : Heap) (locs : List Loc) (ls : Array Slot), (0 ≤ z2) → (0 ≤ z2 ∧ z2 ≤ 4) → (1 ≤ z3 ∧ z3 ≤ 10000) → ((z2 = 0 → z3 = 1) ∧ (z2 = 1 → z3 = 10) ∧ (z2 = 2 → z3 = 100) ∧ (z2 = 3 → z3 = 1000)) → ((3 - z2 + 1).toNat = n8) → IM A5 → fr [54] [78, 80] A A5 → va_P (dC, dI) vwCl (WM cI cJ cZ q A5) H → va_S AS s.heap H locs → lv_has ls 5 [(3, .int (iI z2)), (2, .int (iI z3)), (0, .ref (q 0)), (1, .int (iI x1))] → W p l e (headSpec ws_mc_X12_fits ({ frames := 4, cells := 0, slots := 0, locals := 93 } : Room)).room s m [.ref (q 0), .int (iI x1)].toArray below meth c H locs 0 0 Q (F0 m 15 ls []) := by
      intro n8
      induction n8 using Nat.strongRecOn with
      | ind n8 ih7 =>
        intro z2 z3 A5 H locs ls f9 f10 f11 f12 hn8 hI hj4 hP hS hl
        refine lv_iload_n hx hb dX12_fits_15 rfl (lv_at hl 0 rfl) ?_
        refine lv_iconst (v := iI 3) hx hb dX12_fits_16 (by decide +kernel) ?_
        refine lv_icmp_gt (tgt := 85) hx hb dX12_fits_17 (by decide) (fun c13 => ?_) (fun c13 => ?_)
        · have c13 : 3 < z2 := (i_lt ⟨by decide, by decide⟩ (rb f10 (by decide) (by decide))).mp c13
          refine lv_iconst (v := iI (-1)) hx hb dX12_fits_85 (by decide +kernel) ?_
          exact RET (-1) _ _ _ _ _ ⟨hI, fr.trans (fr.rf) hj4 rfl rfl, by omega⟩ hP hS dX12_fits_86
        · have c13 : ¬ 3 < z2 := mt (i_lt ⟨by decide, by decide⟩ (rb f10 (by decide) (by decide))).mpr c13
          refine lv_iconst (v := iI 0) hx hb dX12_fits_20 (by decide +kernel) ?_
          refine lv_istore (lv' := [(4, .int (iI 0)), (3, .int (iI z2)), (2, .int (iI z3)), (0, .ref (q 0)), (1, .int (iI x1))]) hx hb dX12_fits_21 hl (by decide) rfl (fun ls hl => ?_)
          have L23_17 : ∀ (n19 : Nat) (z14 : Int) (A16 : St) (H : Heap) (locs : List Loc) (ls : Array Slot), (0 ≤ z14) → (0 ≤ z14 ∧ z14 ≤ 2147483647) → ((z3 - z14 + 1).toNat = n19) → IM A16 → fr [54] [78, 80] A5 A16 → va_P (dC, dI) vwCl (WM cI cJ cZ q A16) H → va_S AS s.heap H locs → lv_has ls 5 [(4, .int (iI z14)), (3, .int (iI z2)), (2, .int (iI z3)), (0, .ref (q 0)), (1, .int (iI x1))] → W p l e (headSpec ws_mc_X12_fits ({ frames := 4, cells := 0, slots := 0, locals := 93 } : Room)).room s m [.ref (q 0), .int (iI x1)].toArray below meth c H locs 0 0 Q (F0 m 23 ls []) := by
            intro n19
            induction n19 using Nat.strongRecOn with
            | ind n19 ih18 =>
              intro z14 A16 H locs ls f20 f21 hn19 hI hj15 hP hS hl
              refine lv_iload hx hb dX12_fits_23 (lv_at hl 0 rfl) ?_
              refine lv_iload_n hx hb dX12_fits_25 rfl (lv_at hl 2 rfl) ?_
              refine lv_icmp_ge (tgt := 74) hx hb dX12_fits_26 (by decide) (fun c22 => ?_) (fun c22 => ?_)
              · have c22 : z3 ≤ z14 := (i_le (rb f11 (by decide) (by decide)) (rb f21 (by decide) (by decide))).mp c22
                refine lv_iload_n hx hb dX12_fits_74 rfl (lv_at hl 2 rfl) ?_
                refine lv_bipush (v := iI 10) hx hb dX12_fits_75 (by decide +kernel) ?_
                refine x_mulv (v := 10 * z3) hx hb dX12_fits_77 (by omega) ?_
                refine lv_istore_n (lv' := [(2, .int (iI (10 * z3))), (4, .int (iI z14)), (3, .int (iI z2)), (0, .ref (q 0)), (1, .int (iI x1))]) hx hb dX12_fits_78 rfl hl (by decide) rfl (fun ls hl => ?_)
                refine lv_iinc (v := iI (z2 + 1)) (lv' := [(3, .int (iI (z2 + 1))), (2, .int (iI (10 * z3))), (4, .int (iI z14)), (0, .ref (q 0)), (1, .int (iI x1))]) hx hb dX12_fits_79 hl (k := 2) rfl (i_inc (by omega)) (by decide) rfl (fun ls hl => ?_)
                refine lv_goto (tgt := 15) hx hb dX12_fits_82 (by decide) ?_
                exact ih7 _ (by omega) (z2 + 1) (10 * z3) _ _ _ _ (by omega) (by omega) (by omega) (by omega) rfl hI (fr.trans (fr.trans (fr.rf) hj4 rfl rfl) hj15 rfl rfl) hP hS (lv_sub hl [0, 1, 3, 4] rfl)
              · have c22 : ¬ z3 ≤ z14 := mt (i_le (rb f11 (by decide) (by decide)) (rb f21 (by decide) (by decide))).mpr c22
                refine lv_aload_n hx hb dX12_fits_29 rfl (lv_at hl 3 rfl) ?_
                refine lv_iload_n hx hb dX12_fits_30 rfl (lv_at hl 1 rfl) ?_
                refine lv_iload hx hb dX12_fits_31 (lv_at hl 0 rfl) ?_
                refine x_calli (As := [.int (iI z2), .int (iI z14)]) (rest := []) ⟨hx, hb, hml, hown, hts⟩ (mc_X12_isRow l dC dI cB cI cJ cZ cQ q _ z2 z14 hI (by omega) (by omega)) (cwV 2 hts (goodV (wl_in_8 _ (List.mem_of_getElem? (i := 15) rfl)) (wl_in_8 _ (List.mem_of_getElem? (i := 16) rfl)) (wl_in_8 _ (List.mem_of_getElem? (i := 17) rfl)) (wl_in_0 _ (List.mem_of_getElem? (i := 8) rfl)) (wl_in_8 _ (List.mem_of_getElem? (i := 13) rfl))) rfl rfl rfl (by decide +kernel) ⟨Nat.le_of_ble_eq_true rfl, Nat.le_of_ble_eq_true rfl⟩) hK hDD hA0 hP hS 0 12 wm0 rfl rfl hl.1 (Nat.le_of_ble_eq_true rfl) dX12_fits_33 (fun z23 A24 H locs hw25 hP hS => ?_)
                obtain ⟨hI, hf26, hw25⟩ := hw25
                have J68_28 : ∀ (A40 : St) (H : Heap) (locs : List Loc) (ls : Array Slot), IM A40 → fr [] [80] A24 A40 → va_P (dC, dI) vwCl (WM cI cJ cZ q A40) H → va_S AS s.heap H locs → lv_has ls 5 [(4, .int (iI z14)), (3, .int (iI z2)), (2, .int (iI z3)), (0, .ref (q 0)), (1, .int (iI x1))] → W p l e (headSpec ws_mc_X12_fits ({ frames := 4, cells := 0, slots := 0, locals := 93 } : Room)).room s m [.ref (q 0), .int (iI x1)].toArray below meth c H locs 0 0 Q (F0 m 68 ls []) := by
                  intro A40 H locs ls hI hj39 hP hS hl
                  refine lv_iinc (v := iI (z14 + 1)) (lv' := [(4, .int (iI (z14 + 1))), (3, .int (iI z2)), (2, .int (iI z3)), (0, .ref (q 0)), (1, .int (iI x1))]) hx hb dX12_fits_68 hl (k := 0) rfl (i_inc (by omega)) (by decide) rfl (fun ls hl => ?_)
                  refine lv_goto (tgt := 23) hx hb dX12_fits_71 (by decide) ?_
                  exact ih18 _ (by omega) (z14 + 1) _ _ _ _ (by omega) (by omega) rfl hI (fr.trans (fr.trans (fr.trans (fr.rf) hj15 rfl rfl) hf26 rfl rfl) hj39 rfl rfl) hP hS (lv_sub hl [0, 1, 2, 3, 4] rfl)
                refine lv_if_eq (tgt := 68) hx hb dX12_fits_36 (by decide) (fun c27 => ?_) (fun c27 => ?_)
                · have c27 : z23 = 0 := (i_eq0 (rb hw25 (by decide) (by decide))).mp c27
                  exact J68_28 _ _ _ _ hI (fr.rf) hP hS (lv_sub hl [0, 1, 2, 3, 4] rfl)
                · have c27 : ¬ z23 = 0 := mt (i_eq0 (rb hw25 (by decide) (by decide))).mpr c27
                  refine lv_aload_n hx hb dX12_fits_39 rfl (lv_at hl 3 rfl) ?_
                  refine x_calli (As := []) (rest := []) ⟨hx, hb, hml, hown, hts⟩ (mc_X12_agrees l dC dI cB cI cJ cZ cQ q _ hI) (cwV 0 hts (goodV (wl_in_8 _ (List.mem_of_getElem? (i := 18) rfl)) (wl_in_8 _ (List.mem_of_getElem? (i := 19) rfl)) (wl_in_8 _ (List.mem_of_getElem? (i := 20) rfl)) (wl_in_0 _ (List.mem_of_getElem? (i := 8) rfl)) (wl_in_8 _ (List.mem_of_getElem? (i := 7) rfl))) rfl rfl rfl (by decide +kernel) ⟨Nat.le_of_ble_eq_true rfl, Nat.le_of_ble_eq_true rfl⟩) hK hDD hA0 hP hS 0 12 wm0 rfl rfl hl.1 (Nat.le_of_ble_eq_true rfl) dX12_fits_40 (fun z29 A30 H locs hw31 hP hS => ?_)
                  obtain ⟨hI, hf32, hw31⟩ := hw31
                  refine lv_if_eq (tgt := 68) hx hb dX12_fits_43 (by decide) (fun c33 => ?_) (fun c33 => ?_)
                  · have c33 : z29 = 0 := (i_eq0 (rb hw31 (by decide) (by decide))).mp c33
                    exact J68_28 _ _ _ _ hI (fr.trans (fr.rf) hf32 rfl rfl) hP hS (lv_sub hl [0, 1, 2, 3, 4] rfl)
                  · have c33 : ¬ z29 = 0 := mt (i_eq0 (rb hw31 (by decide) (by decide))).mpr c33
                    refine lv_iload_n hx hb dX12_fits_46 rfl (lv_at hl 4 rfl) ?_
                    refine lv_iconst (v := iI 0) hx hb dX12_fits_47 (by decide +kernel) ?_
                    refine lv_iload_n hx hb dX12_fits_48 rfl (lv_at hl 1 rfl) ?_
                    refine lv_iconst (v := iI 1) hx hb dX12_fits_49 (by decide +kernel) ?_
                    refine x_subv (v := z2 - 1) hx hb dX12_fits_50 (by omega) ?_
                    refine x_callSi (As := [.int (iI x1), .int (iI 0), .int (iI (z2 - 1))]) (rest := []) ⟨hx, hb, hml, hown, hts⟩ (mc_X12_is l dC dI cB cI cJ cZ cQ q _ x1 0 (z2 - 1) hI hx1 ⟨by decide, by decide⟩ (by omega)) (va_cwS 3 hts (goodS (wl_in_1 _ (List.mem_of_getElem? (i := 27) rfl)) (wl_in_1 _ (List.mem_of_getElem? (i := 28) rfl)) (wl_in_0 _ (List.mem_of_getElem? (i := 8) rfl)) (wl_in_0 _ (List.mem_of_getElem? (i := 0) rfl))) rfl rfl rfl (by decide +kernel) ⟨Nat.le_of_ble_eq_true rfl, Nat.le_of_ble_eq_true rfl⟩) hK hDD hA0 hP hS rfl hl.1 (Nat.le_of_ble_eq_true rfl) dX12_fits_51 (fun z34 A35 H locs hw36 hP hS => ?_)
                    obtain ⟨rfl, hw36⟩ := hw36
                    have hw36 := hw36.2
                    have rz34 : 0 ≤ z34 ∧ z34 ≤ 1 := hw36.1
                    refine lv_if_eq (tgt := 66) hx hb dX12_fits_54 (by decide) (fun c37 => ?_) (fun c37 => ?_)
                    · have c37 : z34 = 0 := (i_eq0 (rb rz34 (by decide) (by decide))).mp c37
                      have hw36b := mt hw36.2.mpr (by omega)
                      clear hw36
                      refine lv_iconst (v := iI (-1)) hx hb dX12_fits_66 (by decide +kernel) ?_
                      exact RET (-1) _ _ _ _ _ ⟨hI, fr.trans (fr.trans (fr.trans (fr.trans (fr.rf) hj4 rfl rfl) hj15 rfl rfl) hf26 rfl rfl) hf32 rfl rfl, by omega⟩ hP hS dX12_fits_67
                    · have c37 : ¬ z34 = 0 := mt (i_eq0 (rb rz34 (by decide) (by decide))).mpr c37
                      have hw36b := hw36.2.mp (by omega)
                      clear hw36
                      refine lv_aload_n hx hb dX12_fits_57 rfl (lv_at hl 3 rfl) ?_
                      refine va_get (D := (dC, dI)) (ci := 12) (v := .ref (q 54)) (C := RX12) (T := TX12) (N := 85) hx hb hts hiX12 hown hK hP 0 wm0 rfl 79 (by decide) (hts _ (List.mem_cons_of_mem _ (wl_in_8 _ (List.mem_of_getElem? (i := 10) rfl)))) (fun _ h9 => h9) rfl dX12_fits_58 ?_
                      refine lv_iload_n hx hb dX12_fits_61 rfl (lv_at hl 4 rfl) ?_
                      have a_A30_54 : A30 54 = A24 54 := (hf32.1 54 (by decide) rfl)
                      refine x_iald hx hb hK hP 54 1 wm54 rfl (by omega) (by decide) dX12_fits_62 (fun z38 hz38 => ?_)
                      have rz38 : (0 : Int) ≤ z38 ∧ z38 ≤ 9 := by rw [hz38]; exact hI 54 _
                      have hz38 : z38 = A24 54 (x1).toNat := hz38.trans (congrFun a_A30_54 _)
                      refine lv_goto (tgt := 67) hx hb dX12_fits_63 (by decide) ?_
                      exact RET z38 _ _ _ _ _ ⟨hI, fr.trans (fr.trans (fr.trans (fr.trans (fr.rf) hj4 rfl rfl) hj15 rfl rfl) hf26 rfl rfl) hf32 rfl rfl, by omega⟩ hP hS dX12_fits_67
          exact L23_17 _ 0 _ _ _ _ (by omega) (by omega) rfl hI (fr.rf) hP hS (lv_sub hl [0, 1, 2, 3, 4] rfl)
    exact L15_6 _ 0 1 _ _ _ _ (by omega) (by omega) (by omega) (by omega) rfl hI (fr.rf) hP hS (lv_sub hl [0, 1, 2, 3] rfl)
  · have c1 : x1 = (-1) := (i_eq hx1 ⟨by decide, by decide⟩).mp c1
    refine lv_aload_n hx hb dX12_fits_5 rfl (lv_at hl 0 rfl) ?_
    refine lv_iconst (v := iI (-1)) hx hb dX12_fits_6 (by decide +kernel) ?_
    refine x_calli (As := [.int (iI (-1))]) (rest := []) ⟨hx, hb, hml, hown, hts⟩ (mc_X12_fitting l dC dI cB cI cJ cZ cQ q _ (-1) hI ⟨by decide, by decide⟩) (cwV 1 hts (goodV (wl_in_8 _ (List.mem_of_getElem? (i := 22) rfl)) (wl_in_8 _ (List.mem_of_getElem? (i := 23) rfl)) (wl_in_8 _ (List.mem_of_getElem? (i := 24) rfl)) (wl_in_0 _ (List.mem_of_getElem? (i := 8) rfl)) (wl_in_8 _ (List.mem_of_getElem? (i := 14) rfl))) rfl rfl rfl (by decide +kernel) ⟨Nat.le_of_ble_eq_true rfl, Nat.le_of_ble_eq_true rfl⟩) hK hDD hA0 hP hS 0 12 wm0 rfl rfl hl.1 (Nat.le_of_ble_eq_true rfl) dX12_fits_7 (fun z41 A42 H locs hw43 hP hS => ?_)
    obtain ⟨hI, hf44, hw43⟩ := hw43
    exact RET z41 _ _ _ _ _ ⟨hI, fr.trans (fr.rf) hf44 rfl rfl, by omega⟩ hP hS dX12_fits_10

def ws_mc_X12_would : List Cond := .code yX12_would cX12_would 2 (some .int) :: WX
set_option maxHeartbeats 4000000 in
set_option maxRecDepth 100000 in
theorem mc_X12_would (l : Launch) (dC : Nat → ClassId) (dI : Nat → Nat → Nat) (cB cI cJ cZ cQ : ClassId) (q : Nat → Nat) (A : St) (x1 : Int) (hI : IM A) (hx1 : (-2147483648 : Int) ≤ x1 ∧ x1 ≤ 2147483647) : XMi l yX12_would ws_mc_X12_would ({ frames := 4, cells := 0, slots := 0, locals := 93 } : Room) (dC, dI) (tyA cB cI cJ cZ cQ) (WM cI cJ cZ q) A [.ref (q 0), .int (iI x1)] (fun z u => IM u ∧ fr [54] [78, 80] A u ∧ (-2147483648 ≤ z ∧ z ≤ 2147483647)) := by
  refine x_meti (cc := cX12_would) (maxL := 2) WM_adr (by decide +kernel) rfl (Nat.le_of_ble_eq_true rfl) (fun p e s m below meth c Q AS ls hx hb hml hown hts hK hDD hA0 hP hS hl RET => ?_)
  have hown : s.vm.findClass RX12 = some m.cls := hown
  have hl : lv_has ls 2 [(0, .ref (q 0)), (1, .int (iI x1))] := hl
  obtain ⟨H, hHe⟩ : ∃ H : Heap, H = s.heap := ⟨_, rfl⟩
  rw [← hHe] at hP
  have hS : va_S AS s.heap H [] := by rw [hHe]; exact hS
  suffices hgo : ∀ locs : List Loc, va_S AS s.heap H locs → W p l e (headSpec ws_mc_X12_would ({ frames := 4, cells := 0, slots := 0, locals := 93 } : Room)).room s m [.ref (q 0), .int (iI x1)].toArray below meth c H locs 0 0 Q (F0 m 0 ls []) by
    have := hgo [] hS
    rw [hHe] at this
    exact this
  clear hS hHe
  intro locs hS
  refine lv_aload_n hx hb dX12_would_0 rfl (lv_at hl 0 rfl) ?_
  refine lv_iload_n hx hb dX12_would_1 rfl (lv_at hl 1 rfl) ?_
  have r_A_0_12 : (0 : Int) ≤ (A 0 12) ∧ (A 0 12) ≤ 1 := hI 0 12
  refine x_calli (As := [.int (iI x1)]) (rest := []) ⟨hx, hb, hml, hown, hts⟩ (mc_X12_isDoorB l dC dI cB cI cJ cZ cQ q _ x1 hI hx1) (cwV 1 hts (goodV (wl_in_5 _ (List.mem_of_getElem? (i := 14) rfl)) (wl_in_5 _ (List.mem_of_getElem? (i := 15) rfl)) (wl_in_5 _ (List.mem_of_getElem? (i := 16) rfl)) (wl_in_0 _ (List.mem_of_getElem? (i := 8) rfl)) (wl_in_4 _ (List.mem_of_getElem? (i := 38) rfl))) rfl rfl rfl (by decide +kernel) ⟨Nat.le_of_ble_eq_true rfl, Nat.le_of_ble_eq_true rfl⟩) hK hDD hA0 hP hS 0 12 wm0 rfl rfl hl.1 (Nat.le_of_ble_eq_true rfl) dX12_would_2 (fun z1 A2 H locs hw3 hP hS => ?_)
  obtain ⟨rfl, hw3⟩ := hw3
  have rz1 : 0 ≤ z1 ∧ z1 ≤ 1 := hw3.1
  refine lv_if_eq (tgt := 16) hx hb dX12_would_5 (by decide) (fun c4 => ?_) (fun c4 => ?_)
  · have c4 : z1 = 0 := (i_eq0 (rb rz1 (by decide) (by decide))).mp c4
    clear hw3
    refine lv_iconst (v := iI (-1)) hx hb dX12_would_16 (by decide +kernel) ?_
    exact RET (-1) _ _ _ _ _ ⟨hI, fr.rf, by omega⟩ hP hS dX12_would_17
  · have c4 : ¬ z1 = 0 := mt (i_eq0 (rb rz1 (by decide) (by decide))).mpr c4
    have hw3b := hw3.2.mp (by omega)
    clear hw3
    refine lv_aload_n hx hb dX12_would_8 rfl (lv_at hl 0 rfl) ?_
    refine lv_iload_n hx hb dX12_would_9 rfl (lv_at hl 1 rfl) ?_
    refine x_calli (As := [.int (iI x1)]) (rest := []) ⟨hx, hb, hml, hown, hts⟩ (mc_X12_fitting l dC dI cB cI cJ cZ cQ q _ x1 hI hx1) (cwV 1 hts (goodV (wl_in_8 _ (List.mem_of_getElem? (i := 22) rfl)) (wl_in_8 _ (List.mem_of_getElem? (i := 23) rfl)) (wl_in_8 _ (List.mem_of_getElem? (i := 24) rfl)) (wl_in_0 _ (List.mem_of_getElem? (i := 8) rfl)) (wl_in_8 _ (List.mem_of_getElem? (i := 14) rfl))) rfl rfl rfl (by decide +kernel) ⟨Nat.le_of_ble_eq_true rfl, Nat.le_of_ble_eq_true rfl⟩) hK hDD hA0 hP hS 0 12 wm0 rfl rfl hl.1 (Nat.le_of_ble_eq_true rfl) dX12_would_10 (fun z5 A6 H locs hw7 hP hS => ?_)
    obtain ⟨hI, hf8, hw7⟩ := hw7
    refine lv_goto (tgt := 17) hx hb dX12_would_13 (by decide) ?_
    exact RET z5 _ _ _ _ _ ⟨hI, fr.trans (fr.rf) hf8 rfl rfl, by omega⟩ hP hS dX12_would_17

def ws_mc_X12_unsay : List Cond := .code yX12_unsay cX12_unsay 1 (some .int) :: WX
set_option maxHeartbeats 4000000 in
set_option maxRecDepth 100000 in
theorem mc_X12_unsay (l : Launch) (dC : Nat → ClassId) (dI : Nat → Nat → Nat) (cB cI cJ cZ cQ : ClassId) (q : Nat → Nat) (A : St) (hI : IM A) : XMi l yX12_unsay ws_mc_X12_unsay ({ frames := 1, cells := 0, slots := 0, locals := 21 } : Room) (dC, dI) (tyA cB cI cJ cZ cQ) (WM cI cJ cZ q) A [.ref (q 0)] (fun z u => IM u ∧ fr [41] [75] A u ∧ (-2147483648 ≤ z ∧ z ≤ 2147483647)) := by
  refine x_meti (cc := cX12_unsay) (maxL := 1) WM_adr (by decide +kernel) rfl (Nat.le_of_ble_eq_true rfl) (fun p e s m below meth c Q AS ls hx hb hml hown hts hK hDD hA0 hP hS hl RET => ?_)
  have hown : s.vm.findClass RX12 = some m.cls := hown
  have hl : lv_has ls 1 [(0, .ref (q 0))] := hl
  have hiX12 : ∀ w ∈ u_ws RX12 TX12 85, w ∈ ws_mc_X12_unsay := fun w h => List.mem_cons_of_mem _ (wx_lay w h)
  obtain ⟨H, hHe⟩ : ∃ H : Heap, H = s.heap := ⟨_, rfl⟩
  rw [← hHe] at hP
  have hS : va_S AS s.heap H [] := by rw [hHe]; exact hS
  suffices hgo : ∀ locs : List Loc, va_S AS s.heap H locs → W p l e (headSpec ws_mc_X12_unsay ({ frames := 1, cells := 0, slots := 0, locals := 21 } : Room)).room s m [.ref (q 0)].toArray below meth c H locs 0 0 Q (F0 m 0 ls []) by
    have := hgo [] hS
    rw [hHe] at this
    exact this
  clear hS hHe
  intro locs hS
  refine lv_aload_n hx hb dX12_unsay_0 rfl (lv_at hl 0 rfl) ?_
  refine va_get (D := (dC, dI)) (ci := 12) (v := .int (iI (A 0 75))) (C := RX12) (T := TX12) (N := 85) hx hb hts hiX12 hown hK hP 0 wm0 rfl 75 (by decide) (hts _ (List.mem_cons_of_mem _ (wl_in_4 _ (List.mem_of_getElem? (i := 17) rfl)))) (fun _ h9 => h9) rfl dX12_unsay_1 ?_
  have r_A_0_75 : (0 : Int) ≤ (A 0 75) ∧ (A 0 75) ≤ 20 := hI 0 75
  refine lv_if_ne (tgt := 13) hx hb dX12_unsay_4 (by decide) (fun c1 => ?_) (fun c1 => ?_)
  · have c1 : ¬ (A 0 75) = 0 := mt (i_eq0 (rb r_A_0_75 (by decide) (by decide))).mpr c1
    refine lv_aload_n hx hb dX12_unsay_13 rfl (lv_at hl 0 rfl) ?_
    refine lv_dup hx hb dX12_unsay_14 rfl ?_
    refine va_get (D := (dC, dI)) (ci := 12) (v := .int (iI (A 0 75))) (C := RX12) (T := TX12) (N := 85) hx hb hts hiX12 hown hK hP 0 wm0 rfl 75 (by decide) (hts _ (List.mem_cons_of_mem _ (wl_in_4 _ (List.mem_of_getElem? (i := 17) rfl)))) (fun _ h9 => h9) rfl dX12_unsay_15 ?_
    refine lv_iconst (v := iI 1) hx hb dX12_unsay_18 (by decide +kernel) ?_
    refine x_subv (v := (A 0 75) - 1) hx hb dX12_unsay_19 (by omega) ?_
    refine x_put (D := (dC, dI)) (ci := 12) (v := .int (iI ((A 0 75) - 1))) (ty := .int) (C := RX12) (T := TX12) (N := 85) hx hb hts hiX12 tyX12 tyX12_ok nmX12 hown hK hP hDD hS 0 wm0 rfl 75 (by decide) (hts _ (List.mem_cons_of_mem _ (wl_in_4 _ (List.mem_of_getElem? (i := 17) rfl)))) (fun _ h9 => h9) rfl (by decide +kernel) rfl rfl (Nat.le_of_ble_eq_true rfl) dX12_unsay_20 (wf75 (v := (A 0 75) - 1)) (fun H locs hP hS => ?_)
    have hI := hI.st (j := 0) (i := 75) (v := (A 0 75) - 1) (show (0 : Int) ≤ (A 0 75) - 1 ∧ (A 0 75) - 1 ≤ 20 from (by omega))
    refine lv_aload_n hx hb dX12_unsay_23 rfl (lv_at hl 0 rfl) ?_
    refine va_get (D := (dC, dI)) (ci := 12) (v := .int (iI ((A 0 75) - 1))) (C := RX12) (T := TX12) (N := 85) hx hb hts hiX12 hown hK hP 0 wm0 rfl 75 (by decide) (hts _ (List.mem_cons_of_mem _ (wl_in_4 _ (List.mem_of_getElem? (i := 17) rfl)))) (fun _ h9 => h9) rfl dX12_unsay_24 ?_
    exact RET ((A 0 75) - 1) _ _ _ _ _ ⟨hI, fr.sf (fr.rf) rfl, by omega⟩ hP hS dX12_unsay_27
  · have c1 : (A 0 75) = 0 := (i_eq0 (rb r_A_0_75 (by decide) (by decide))).mp c1
    refine lv_aload_n hx hb dX12_unsay_7 rfl (lv_at hl 0 rfl) ?_
    refine lv_iconst (v := iI 4) hx hb dX12_unsay_8 (by decide +kernel) ?_
    refine x_calli (As := [.int (iI 4)]) (rest := []) ⟨hx, hb, hml, hown, hts⟩ (mc_X12_refuses l dC dI cB cI cJ cZ cQ q _ 4 hI ⟨by decide, by decide⟩) (cwV 1 hts (goodV (wl_in_0 _ (List.mem_of_getElem? (i := 5) rfl)) (wl_in_0 _ (List.mem_of_getElem? (i := 6) rfl)) (wl_in_0 _ (List.mem_of_getElem? (i := 7) rfl)) (wl_in_0 _ (List.mem_of_getElem? (i := 8) rfl)) (wl_in_0 _ (List.mem_of_getElem? (i := 9) rfl))) rfl rfl rfl (by decide +kernel) ⟨Nat.le_of_ble_eq_true rfl, Nat.le_of_ble_eq_true rfl⟩) hK hDD hA0 hP hS 0 12 wm0 rfl rfl hl.1 (Nat.le_of_ble_eq_true rfl) dX12_unsay_9 (fun z2 A3 H locs hw4 hP hS => ?_)
    obtain ⟨_, hI, hf5, hw4⟩ := hw4
    exact RET z2 _ _ _ _ _ ⟨hI, fr.trans (fr.rf) hf5 rfl rfl, by omega⟩ hP hS dX12_unsay_12

def ws_mc_X12_ways : List Cond := .code yX12_ways cX12_ways 4 none :: WX
set_option maxHeartbeats 4000000 in
set_option maxRecDepth 100000 in
theorem mc_X12_ways (l : Launch) (dC : Nat → ClassId) (dI : Nat → Nat → Nat) (cB cI cJ cZ cQ : ClassId) (q : Nat → Nat) (A : St) (hI : IM A) : XMv l yX12_ways ws_mc_X12_ways ({ frames := 3, cells := 0, slots := 0, locals := 67 } : Room) (dC, dI) (tyA cB cI cJ cZ cQ) (WM cI cJ cZ q) A [.ref (q 0)] (fun u => IM u ∧ fr [55] [] A u ∧ (True)) := by
  refine x_metv (cc := cX12_ways) (maxL := 4) WM_adr (by decide +kernel) rfl (Nat.le_of_ble_eq_true rfl) (fun p e s m below meth c Q AS ls hx hb hml hown hts hK hDD hA0 hP hS hl RET => ?_)
  have hown : s.vm.findClass RX12 = some m.cls := hown
  have hl : lv_has ls 4 [(0, .ref (q 0))] := hl
  have hiX12 : ∀ w ∈ u_ws RX12 TX12 85, w ∈ ws_mc_X12_ways := fun w h => List.mem_cons_of_mem _ (wx_lay w h)
  obtain ⟨H, hHe⟩ : ∃ H : Heap, H = s.heap := ⟨_, rfl⟩
  rw [← hHe] at hP
  have hS : va_S AS s.heap H [] := by rw [hHe]; exact hS
  suffices hgo : ∀ locs : List Loc, va_S AS s.heap H locs → W p l e (headSpec ws_mc_X12_ways ({ frames := 3, cells := 0, slots := 0, locals := 67 } : Room)).room s m [.ref (q 0)].toArray below meth c H locs 0 0 Q (F0 m 0 ls []) by
    have := hgo [] hS
    rw [hHe] at this
    exact this
  clear hS hHe
  intro locs hS
  refine lv_iconst (v := iI 0) hx hb dX12_ways_0 (by decide +kernel) ?_
  refine lv_istore_n (lv' := [(1, .int (iI 0)), (0, .ref (q 0))]) hx hb dX12_ways_1 rfl hl (by decide) rfl (fun ls hl => ?_)
  have L2_4 : ∀ (n6 : Nat) (z1 : Int) (A3 : St) (H : Heap) (locs : List Loc) (ls : Array Slot), (0 ≤ z1) → (0 ≤ z1 ∧ z1 ≤ 2147483647) → ((64 - z1 + 1).toNat = n6) → IM A3 → fr [55] [] A A3 → va_P (dC, dI) vwCl (WM cI cJ cZ q A3) H → va_S AS s.heap H locs → lv_has ls 4 [(1, .int (iI z1)), (0, .ref (q 0))] → W p l e (headSpec ws_mc_X12_ways ({ frames := 3, cells := 0, slots := 0, locals := 67 } : Room)).room s m [.ref (q 0)].toArray below meth c H locs 0 0 Q (F0 m 2 ls []) := by
    intro n6
    induction n6 using Nat.strongRecOn with
    | ind n6 ih5 =>
      intro z1 A3 H locs ls f7 f8 hn6 hI hj2 hP hS hl
      refine lv_iload_n hx hb dX12_ways_2 rfl (lv_at hl 0 rfl) ?_
      refine lv_bipush (v := iI 64) hx hb dX12_ways_3 (by decide +kernel) ?_
      refine lv_icmp_ge (tgt := 38) hx hb dX12_ways_5 (by decide) (fun c9 => ?_) (fun c9 => ?_)
      · have c9 : 64 ≤ z1 := (i_le ⟨by decide, by decide⟩ (rb f8 (by decide) (by decide))).mp c9
        refine lv_iconst (v := iI 0) hx hb dX12_ways_38 (by decide +kernel) ?_
        refine lv_istore_n (lv' := [(1, .int (iI 0)), (0, .ref (q 0))]) hx hb dX12_ways_39 rfl hl (by decide) rfl (fun ls hl => ?_)
        have L40_14 : ∀ (n16 : Nat) (z10 : Int) (A12 : St) (H : Heap) (locs : List Loc) (ls : Array Slot), (0 ≤ z10) → (0 ≤ z10 ∧ z10 ≤ 2147483647) → ((A 4 ((A 0 12)).toNat - z10 + 1).toNat = n16) → IM A12 → fr [55] [] A3 A12 → va_P (dC, dI) vwCl (WM cI cJ cZ q A12) H → va_S AS s.heap H locs → lv_has ls 4 [(1, .int (iI z10)), (0, .ref (q 0))] → W p l e (headSpec ws_mc_X12_ways ({ frames := 3, cells := 0, slots := 0, locals := 67 } : Room)).room s m [.ref (q 0)].toArray below meth c H locs 0 0 Q (F0 m 40 ls []) := by
          intro n16
          induction n16 using Nat.strongRecOn with
          | ind n16 ih15 =>
            intro z10 A12 H locs ls f17 f18 hn16 hI hj11 hP hS hl
            refine lv_iload_n hx hb dX12_ways_40 rfl (lv_at hl 0 rfl) ?_
            refine lv_aload_n hx hb dX12_ways_41 rfl (lv_at hl 1 rfl) ?_
            refine va_get (D := (dC, dI)) (ci := 12) (v := .ref (q 4)) (C := RX12) (T := TX12) (N := 85) hx hb hts hiX12 hown hK hP 0 wm0 rfl 15 (by decide) (hts _ (List.mem_cons_of_mem _ (wl_in_1 _ (List.mem_of_getElem? (i := 13) rfl)))) (fun _ h9 => h9) rfl dX12_ways_42 ?_
            refine lv_aload_n hx hb dX12_ways_45 rfl (lv_at hl 1 rfl) ?_
            have e_A3_12 : A3 0 12 = (A 0 12) := (hj2.2 12 rfl)
            have e_A12_12 : A12 0 12 = (A 0 12) := (hj11.2 12 rfl).trans e_A3_12
            refine va_get (D := (dC, dI)) (ci := 12) (v := .int (iI (A12 0 12))) (C := RX12) (T := TX12) (N := 85) hx hb hts hiX12 hown hK hP 0 wm0 rfl 12 (by decide) (hts _ (List.mem_cons_of_mem _ (wl_in_4 _ (List.mem_of_getElem? (i := 14) rfl)))) (fun _ h9 => h9) rfl dX12_ways_46 ?_
            refine tp_i (y := iI (A 0 12)) (congrArg iI e_A12_12) ?_
            have r_A_0_12 : (0 : Int) ≤ (A 0 12) ∧ (A 0 12) ≤ 1 := by rw [← e_A12_12]; exact hI 0 12
            have a_A3_4 : A3 4 = A 4 := (hj2.1 4 (by decide) rfl)
            have a_A12_4 : A12 4 = A 4 := (hj11.1 4 (by decide) rfl).trans a_A3_4
            refine x_iald hx hb hK hP 4 1 wm4 rfl (by omega) (by decide) dX12_ways_49 (fun z19 hz19 => ?_)
            have rz19 : (0 : Int) ≤ z19 ∧ z19 ≤ 10 := by rw [hz19]; exact hI 4 _
            have hz19 : z19 = A 4 ((A 0 12)).toNat := hz19.trans (congrFun a_A12_4 _)
            refine lv_icmp_ge (tgt := 174) hx hb dX12_ways_50 (by decide) (fun c20 => ?_) (fun c20 => ?_)
            · have c20 : z19 ≤ z10 := (i_le (rb rz19 (by decide) (by decide)) (rb f18 (by decide) (by decide))).mp c20
              refine lv_iconst (v := iI 0) hx hb dX12_ways_174 (by decide +kernel) ?_
              refine lv_istore_n (lv' := [(1, .int (iI 0)), (0, .ref (q 0))]) hx hb dX12_ways_175 rfl hl (by decide) rfl (fun ls hl => ?_)
              have L176_24 : ∀ (n26 : Nat) (z21 : Int) (A23 : St) (H : Heap) (locs : List Loc) (ls : Array Slot), (0 ≤ z21) → (0 ≤ z21 ∧ z21 ≤ 2147483647) → ((8 - z21 + 1).toNat = n26) → IM A23 → fr [55] [] A12 A23 → va_P (dC, dI) vwCl (WM cI cJ cZ q A23) H → va_S AS s.heap H locs → lv_has ls 4 [(1, .int (iI z21)), (0, .ref (q 0))] → W p l e (headSpec ws_mc_X12_ways ({ frames := 3, cells := 0, slots := 0, locals := 67 } : Room)).room s m [.ref (q 0)].toArray below meth c H locs 0 0 Q (F0 m 176 ls []) := by
                intro n26
                induction n26 using Nat.strongRecOn with
                | ind n26 ih25 =>
                  intro z21 A23 H locs ls f27 f28 hn26 hI hj22 hP hS hl
                  refine lv_iload_n hx hb dX12_ways_176 rfl (lv_at hl 0 rfl) ?_
                  refine lv_bipush (v := iI 8) hx hb dX12_ways_177 (by decide +kernel) ?_
                  refine lv_icmp_ge (tgt := 258) hx hb dX12_ways_179 (by decide) (fun c29 => ?_) (fun c29 => ?_)
                  · have c29 : 8 ≤ z21 := (i_le ⟨by decide, by decide⟩ (rb f28 (by decide) (by decide))).mp c29
                    exact RET _ _ _ _ _ ⟨hI, fr.trans (fr.trans (fr.trans (fr.rf) hj2 rfl rfl) hj11 rfl rfl) hj22 rfl rfl, trivial⟩ hP hS dX12_ways_258
                  · have c29 : ¬ 8 ≤ z21 := mt (i_le ⟨by decide, by decide⟩ (rb f28 (by decide) (by decide))).mpr c29
                    refine lv_iconst (v := iI 0) hx hb dX12_ways_182 (by decide +kernel) ?_
                    refine lv_istore_n (lv' := [(2, .int (iI 0)), (1, .int (iI z21)), (0, .ref (q 0))]) hx hb dX12_ways_183 rfl hl (by decide) rfl (fun ls hl => ?_)
                    have L184_33 : ∀ (n35 : Nat) (z30 : Int) (A32 : St) (H : Heap) (locs : List Loc) (ls : Array Slot), (0 ≤ z30) → (0 ≤ z30 ∧ z30 ≤ 2147483647) → ((64 - z30 + 1).toNat = n35) → IM A32 → fr [55] [] A23 A32 → va_P (dC, dI) vwCl (WM cI cJ cZ q A32) H → va_S AS s.heap H locs → lv_has ls 4 [(2, .int (iI z30)), (1, .int (iI z21)), (0, .ref (q 0))] → W p l e (headSpec ws_mc_X12_ways ({ frames := 3, cells := 0, slots := 0, locals := 67 } : Room)).room s m [.ref (q 0)].toArray below meth c H locs 0 0 Q (F0 m 184 ls []) := by
                      intro n35
                      induction n35 using Nat.strongRecOn with
                      | ind n35 ih34 =>
                        intro z30 A32 H locs ls f36 f37 hn35 hI hj31 hP hS hl
                        refine lv_iload_n hx hb dX12_ways_184 rfl (lv_at hl 0 rfl) ?_
                        refine lv_bipush (v := iI 64) hx hb dX12_ways_185 (by decide +kernel) ?_
                        refine lv_icmp_ge (tgt := 252) hx hb dX12_ways_187 (by decide) (fun c38 => ?_) (fun c38 => ?_)
                        · have c38 : 64 ≤ z30 := (i_le ⟨by decide, by decide⟩ (rb f37 (by decide) (by decide))).mp c38
                          refine lv_iinc (v := iI (z21 + 1)) (lv' := [(1, .int (iI (z21 + 1))), (2, .int (iI z30)), (0, .ref (q 0))]) hx hb dX12_ways_252 hl (k := 1) rfl (i_inc (by omega)) (by decide) rfl (fun ls hl => ?_)
                          refine lv_goto (tgt := 176) hx hb dX12_ways_255 (by decide) ?_
                          exact ih25 _ (by omega) (z21 + 1) _ _ _ _ (by omega) (by omega) rfl hI (fr.trans (fr.trans (fr.rf) hj22 rfl rfl) hj31 rfl rfl) hP hS (lv_sub hl [0, 2] rfl)
                        · have c38 : ¬ 64 ≤ z30 := mt (i_le ⟨by decide, by decide⟩ (rb f37 (by decide) (by decide))).mpr c38
                          refine lv_aload_n hx hb dX12_ways_190 rfl (lv_at hl 2 rfl) ?_
                          refine va_get (D := (dC, dI)) (ci := 12) (v := .ref (q 55)) (C := RX12) (T := TX12) (N := 85) hx hb hts hiX12 hown hK hP 0 wm0 rfl 81 (by decide) (hts _ (List.mem_cons_of_mem _ (wl_in_8 _ (List.mem_of_getElem? (i := 29) rfl)))) (fun _ h9 => h9) rfl dX12_ways_191 ?_
                          refine lv_iload_n hx hb dX12_ways_194 rfl (lv_at hl 0 rfl) ?_
                          refine lv_bipush (v := iI 8) hx hb dX12_ways_195 (by decide +kernel) ?_
                          refine x_div hx hb dX12_ways_197 (by omega) (by omega) (fun z39 hz39 hz39b => ?_)
                          refine lv_bipush (v := iI 8) hx hb dX12_ways_198 (by decide +kernel) ?_
                          refine x_mulv (v := 8 * z39) hx hb dX12_ways_200 (by omega) ?_
                          refine lv_iload_n hx hb dX12_ways_201 rfl (lv_at hl 1 rfl) ?_
                          refine x_addv (v := 8 * z39 + z21) hx hb dX12_ways_202 (by omega) ?_
                          refine x_iald hx hb hK hP 55 1 wm55 rfl (by omega) (by decide) dX12_ways_203 (fun z40 hz40 => ?_)
                          have rz40 : (-2147483648 : Int) ≤ z40 ∧ z40 ≤ 2147483647 := by rw [hz40]; exact hI 55 _
                          have hz40 : z40 = A32 55 (8 * z39 + z21).toNat := hz40
                          refine lv_aload_n hx hb dX12_ways_204 rfl (lv_at hl 2 rfl) ?_
                          refine va_get (D := (dC, dI)) (ci := 12) (v := .ref (q 55)) (C := RX12) (T := TX12) (N := 85) hx hb hts hiX12 hown hK hP 0 wm0 rfl 81 (by decide) (hts _ (List.mem_cons_of_mem _ (wl_in_8 _ (List.mem_of_getElem? (i := 29) rfl)))) (fun _ h9 => h9) rfl dX12_ways_205 ?_
                          refine lv_bipush (v := iI 8) hx hb dX12_ways_208 (by decide +kernel) ?_
                          refine lv_iload_n hx hb dX12_ways_210 rfl (lv_at hl 1 rfl) ?_
                          refine x_mulv (v := 8 * z21) hx hb dX12_ways_211 (by omega) ?_
                          refine lv_iload_n hx hb dX12_ways_212 rfl (lv_at hl 0 rfl) ?_
                          refine lv_bipush (v := iI 8) hx hb dX12_ways_213 (by decide +kernel) ?_
                          refine x_rem hx hb dX12_ways_215 (by omega) (by omega) (fun z41 hz41 hz41b => ?_)
                          refine x_addv (v := 8 * z21 + z41) hx hb dX12_ways_216 (by omega) ?_
                          refine x_iald hx hb hK hP 55 1 wm55 rfl (by omega) (by decide) dX12_ways_217 (fun z42 hz42 => ?_)
                          have rz42 : (-2147483648 : Int) ≤ z42 ∧ z42 ≤ 2147483647 := by rw [hz42]; exact hI 55 _
                          have hz42 : z42 = A32 55 (8 * z21 + z41).toNat := hz42
                          refine x_addv (v := z40 + z42) hx hb dX12_ways_218 (by omega) ?_
                          refine x_abs (fun z43 hz43 => ?_)
                          refine lv_istore_n (lv' := [(3, .int (iI z43)), (2, .int (iI z30)), (1, .int (iI z21)), (0, .ref (q 0))]) hx hb dX12_ways_219 rfl hl (by decide) rfl (fun ls hl => ?_)
                          refine lv_aload_n hx hb dX12_ways_220 rfl (lv_at hl 3 rfl) ?_
                          refine va_get (D := (dC, dI)) (ci := 12) (v := .ref (q 55)) (C := RX12) (T := TX12) (N := 85) hx hb hts hiX12 hown hK hP 0 wm0 rfl 81 (by decide) (hts _ (List.mem_cons_of_mem _ (wl_in_8 _ (List.mem_of_getElem? (i := 29) rfl)))) (fun _ h9 => h9) rfl dX12_ways_221 ?_
                          refine lv_iload_n hx hb dX12_ways_224 rfl (lv_at hl 1 rfl) ?_
                          refine lv_iload_n hx hb dX12_ways_225 rfl (lv_at hl 0 rfl) ?_
                          refine lv_aload_n hx hb dX12_ways_226 rfl (lv_at hl 3 rfl) ?_
                          refine va_get (D := (dC, dI)) (ci := 12) (v := .ref (q 55)) (C := RX12) (T := TX12) (N := 85) hx hb hts hiX12 hown hK hP 0 wm0 rfl 81 (by decide) (hts _ (List.mem_cons_of_mem _ (wl_in_8 _ (List.mem_of_getElem? (i := 29) rfl)))) (fun _ h9 => h9) rfl dX12_ways_227 ?_
                          refine lv_iload_n hx hb dX12_ways_230 rfl (lv_at hl 1 rfl) ?_
                          refine x_iald hx hb hK hP 55 1 wm55 rfl (by omega) (by decide) dX12_ways_231 (fun z44 hz44 => ?_)
                          have rz44 : (-2147483648 : Int) ≤ z44 ∧ z44 ≤ 2147483647 := by rw [hz44]; exact hI 55 _
                          have hz44 : z44 = A32 55 (z30).toNat := hz44
                          have J245_46 : ∀ (z48 : Int) (H : Heap) (locs : List Loc) (ls : Array Slot), (-2147483648 ≤ z48 ∧ z48 ≤ 2147483647) → va_P (dC, dI) vwCl (WM cI cJ cZ q A32) H → va_S AS s.heap H locs → lv_has ls 4 [(3, .int (iI z43)), (2, .int (iI z30)), (1, .int (iI z21)), (0, .ref (q 0))] → W p l e (headSpec ws_mc_X12_ways ({ frames := 3, cells := 0, slots := 0, locals := 67 } : Room)).room s m [.ref (q 0)].toArray below meth c H locs 0 0 Q (F0 m 245 ls [.int (iI z48), .int (iI z30), .ref (q 55)]) := by
                            intro z48 H locs ls f50 hP hS hl
                            refine x_iast hx hb hK hP hDD hS 55 1 wm55 rfl (by omega) (by decide) dX12_ways_245 ws55 (fun H locs hP hS => ?_)
                            have hI := hI.st (j := 55) (i := (z30).toNat) (v := z48) (show (-2147483648 : Int) ≤ z48 ∧ z48 ≤ 2147483647 from (by omega))
                            refine lv_iinc (v := iI (z30 + 1)) (lv' := [(2, .int (iI (z30 + 1))), (3, .int (iI z43)), (1, .int (iI z21)), (0, .ref (q 0))]) hx hb dX12_ways_246 hl (k := 1) rfl (i_inc (by omega)) (by decide) rfl (fun ls hl => ?_)
                            refine lv_goto (tgt := 184) hx hb dX12_ways_249 (by decide) ?_
                            obtain ⟨A51, hA51⟩ : ∃ A51 : St, A51 = (stA A32 55 (z30).toNat z48) := ⟨_, rfl⟩
                            rw [← hA51] at hP hI
                            exact ih34 _ (by omega) (z30 + 1) _ _ _ _ (by omega) (by omega) rfl hI (fr_def hA51 (fr.st (fr.trans (fr.rf) hj31 rfl rfl) (by decide) rfl)) hP hS (lv_sub hl [0, 2, 3] rfl)
                          refine lv_icmp_ge (tgt := 239) hx hb dX12_ways_232 (by decide) (fun c45 => ?_) (fun c45 => ?_)
                          · have c45 : z44 ≤ z43 := (i_le rz44 (by omega)).mp c45
                            refine lv_aload_n hx hb dX12_ways_239 rfl (lv_at hl 3 rfl) ?_
                            refine va_get (D := (dC, dI)) (ci := 12) (v := .ref (q 55)) (C := RX12) (T := TX12) (N := 85) hx hb hts hiX12 hown hK hP 0 wm0 rfl 81 (by decide) (hts _ (List.mem_cons_of_mem _ (wl_in_8 _ (List.mem_of_getElem? (i := 29) rfl)))) (fun _ h9 => h9) rfl dX12_ways_240 ?_
                            refine lv_iload_n hx hb dX12_ways_243 rfl (lv_at hl 1 rfl) ?_
                            refine x_iald hx hb hK hP 55 1 wm55 rfl (by omega) (by decide) dX12_ways_244 (fun z47 hz47 => ?_)
                            have rz47 : (-2147483648 : Int) ≤ z47 ∧ z47 ≤ 2147483647 := by rw [hz47]; exact hI 55 _
                            have hz47 : z47 = A32 55 (z30).toNat := hz47
                            have ez47 : z47 = z44 := hz47.trans hz44.symm
                            exact J245_46 z47 _ _ _ (by omega) hP hS (lv_sub hl [0, 1, 2, 3] rfl)
                          · have c45 : ¬ z44 ≤ z43 := mt (i_le rz44 (by omega)).mpr c45
                            refine lv_iload_n hx hb dX12_ways_235 rfl (lv_at hl 0 rfl) ?_
                            refine lv_goto (tgt := 245) hx hb dX12_ways_236 (by decide) ?_
                            exact J245_46 z43 _ _ _ (by omega) hP hS (lv_sub hl [0, 1, 2, 3] rfl)
                    exact L184_33 _ 0 _ _ _ _ (by omega) (by omega) rfl hI (fr.rf) hP hS (lv_sub hl [0, 1, 2] rfl)
              exact L176_24 _ 0 _ _ _ _ (by omega) (by omega) rfl hI (fr.rf) hP hS (lv_sub hl [0, 1] rfl)
            · have c20 : ¬ z19 ≤ z10 := mt (i_le (rb rz19 (by decide) (by decide)) (rb f18 (by decide) (by decide))).mpr c20
              refine lv_aload_n hx hb dX12_ways_53 rfl (lv_at hl 1 rfl) ?_
              refine va_get (D := (dC, dI)) (ci := 12) (v := .ref (q 8)) (C := RX12) (T := TX12) (N := 85) hx hb hts hiX12 hown hK hP 0 wm0 rfl 19 (by decide) (hts _ (List.mem_cons_of_mem _ (wl_in_2 _ (List.mem_of_getElem? (i := 41) rfl)))) (fun _ h9 => h9) rfl dX12_ways_54 ?_
              refine lv_aload_n hx hb dX12_ways_57 rfl (lv_at hl 1 rfl) ?_
              refine lv_iload_n hx hb dX12_ways_58 rfl (lv_at hl 0 rfl) ?_
              refine x_calli (As := [.int (iI z10)]) (rest := [.ref (q 8)]) ⟨hx, hb, hml, hown, hts⟩ (mc_X12_door10 l dC dI cB cI cJ cZ cQ q _ z10 hI (by omega)) (cwV 1 hts (goodV (wl_in_4 _ (List.mem_of_getElem? (i := 49) rfl)) (wl_in_4 _ (List.mem_of_getElem? (i := 50) rfl)) (wl_in_4 _ (List.mem_of_getElem? (i := 51) rfl)) (wl_in_0 _ (List.mem_of_getElem? (i := 8) rfl)) (wl_in_4 _ (List.mem_of_getElem? (i := 42) rfl))) rfl rfl rfl (by decide +kernel) ⟨Nat.le_of_ble_eq_true rfl, Nat.le_of_ble_eq_true rfl⟩) hK hDD hA0 hP hS 0 12 wm0 rfl rfl hl.1 (Nat.le_of_ble_eq_true rfl) dX12_ways_59 (fun z52 A53 H locs hw54 hP hS => ?_)
              obtain ⟨rfl, hw54⟩ := hw54
              refine tp_i (y := iI (10 * (A 0 12) + z10)) (congrArg iI (show z52 = 10 * (A 0 12) + z10 by omega)) ?_
              clear hw54 z52
              have a_A3_8 : A3 8 = A 8 := (hj2.1 8 (by decide) rfl)
              have a_A12_8 : A12 8 = A 8 := (hj11.1 8 (by decide) rfl).trans a_A3_8
              refine x_zald hx hb hK hP 8 3 wm8 rfl (by omega) (by decide) dX12_ways_62 (fun z55 hz55 => ?_)
              have rz55 : (0 : Int) ≤ z55 ∧ z55 ≤ 1 := by rw [hz55]; exact hI 8 _
              have hz55 : z55 = A 8 (10 * (A 0 12) + z10).toNat := hz55.trans (congrFun a_A12_8 _)
              have J168_57 : ∀ (A86 : St) (H : Heap) (locs : List Loc) (ls : Array Slot), IM A86 → fr [55] [] A12 A86 → va_P (dC, dI) vwCl (WM cI cJ cZ q A86) H → va_S AS s.heap H locs → lv_has ls 4 [(1, .int (iI z10)), (0, .ref (q 0))] → W p l e (headSpec ws_mc_X12_ways ({ frames := 3, cells := 0, slots := 0, locals := 67 } : Room)).room s m [.ref (q 0)].toArray below meth c H locs 0 0 Q (F0 m 168 ls []) := by
                intro A86 H locs ls hI hj85 hP hS hl
                refine lv_iinc (v := iI (z10 + 1)) (lv' := [(1, .int (iI (z10 + 1))), (0, .ref (q 0))]) hx hb dX12_ways_168 hl (k := 0) rfl (i_inc (by omega)) (by decide) rfl (fun ls hl => ?_)
                refine lv_goto (tgt := 40) hx hb dX12_ways_171 (by decide) ?_
                exact ih15 _ (by omega) (z10 + 1) _ _ _ _ (by omega) (by omega) rfl hI (fr.trans (fr.trans (fr.rf) hj11 rfl rfl) hj85 rfl rfl) hP hS (lv_sub hl [0, 1] rfl)
              refine lv_if_ne (tgt := 168) hx hb dX12_ways_63 (by decide) (fun c56 => ?_) (fun c56 => ?_)
              · have c56 : ¬ z55 = 0 := mt (i_eq0 (rb rz55 (by decide) (by decide))).mpr c56
                exact J168_57 _ _ _ _ hI (fr.rf) hP hS (lv_sub hl [0, 1] rfl)
              · have c56 : z55 = 0 := (i_eq0 (rb rz55 (by decide) (by decide))).mp c56
                refine lv_aload_n hx hb dX12_ways_66 rfl (lv_at hl 1 rfl) ?_
                refine lv_iload_n hx hb dX12_ways_67 rfl (lv_at hl 0 rfl) ?_
                refine x_calli (As := [.int (iI z10)]) (rest := []) ⟨hx, hb, hml, hown, hts⟩ (mc_X12_isShut l dC dI cB cI cJ cZ cQ q _ z10 hI (by omega)) (cwV 1 hts (goodV (wl_in_4 _ (List.mem_of_getElem? (i := 57) rfl)) (wl_in_4 _ (List.mem_of_getElem? (i := 58) rfl)) (wl_in_4 _ (List.mem_of_getElem? (i := 59) rfl)) (wl_in_0 _ (List.mem_of_getElem? (i := 8) rfl)) (wl_in_4 _ (List.mem_of_getElem? (i := 48) rfl))) rfl rfl rfl (by decide +kernel) ⟨Nat.le_of_ble_eq_true rfl, Nat.le_of_ble_eq_true rfl⟩) hK hDD hA0 hP hS 0 12 wm0 rfl rfl hl.1 (Nat.le_of_ble_eq_true rfl) dX12_ways_68 (fun z58 A59 H locs hw60 hP hS => ?_)
                obtain ⟨rfl, hw60⟩ := hw60
                refine lv_if_eq (tgt := 77) hx hb dX12_ways_71 (by decide) (fun c61 => ?_) (fun c61 => ?_)
                · have c61 : z58 = 0 := (i_eq0 (rb hw60 (by decide) (by decide))).mp c61
                  refine lv_aload_n hx hb dX12_ways_77 rfl (lv_at hl 1 rfl) ?_
                  refine va_get (D := (dC, dI)) (ci := 12) (v := .ref (q 6)) (C := RX12) (T := TX12) (N := 85) hx hb hts hiX12 hown hK hP 0 wm0 rfl 17 (by decide) (hts _ (List.mem_cons_of_mem _ (wl_in_2 _ (List.mem_of_getElem? (i := 39) rfl)))) (fun _ h9 => h9) rfl dX12_ways_78 ?_
                  refine lv_aload_n hx hb dX12_ways_81 rfl (lv_at hl 1 rfl) ?_
                  refine lv_iload_n hx hb dX12_ways_82 rfl (lv_at hl 0 rfl) ?_
                  refine x_calli (As := [.int (iI z10)]) (rest := [.ref (q 6)]) ⟨hx, hb, hml, hown, hts⟩ (mc_X12_door10 l dC dI cB cI cJ cZ cQ q _ z10 hI (by omega)) (cwV 1 hts (goodV (wl_in_4 _ (List.mem_of_getElem? (i := 49) rfl)) (wl_in_4 _ (List.mem_of_getElem? (i := 50) rfl)) (wl_in_4 _ (List.mem_of_getElem? (i := 51) rfl)) (wl_in_0 _ (List.mem_of_getElem? (i := 8) rfl)) (wl_in_4 _ (List.mem_of_getElem? (i := 42) rfl))) rfl rfl rfl (by decide +kernel) ⟨Nat.le_of_ble_eq_true rfl, Nat.le_of_ble_eq_true rfl⟩) hK hDD hA0 hP hS 0 12 wm0 rfl rfl hl.1 (Nat.le_of_ble_eq_true rfl) dX12_ways_83 (fun z62 A63 H locs hw64 hP hS => ?_)
                  obtain ⟨rfl, hw64⟩ := hw64
                  refine tp_i (y := iI (10 * (A 0 12) + z10)) (congrArg iI (show z62 = 10 * (A 0 12) + z10 by omega)) ?_
                  clear hw64 z62
                  have a_A3_6 : A3 6 = A 6 := (hj2.1 6 (by decide) rfl)
                  have a_A12_6 : A12 6 = A 6 := (hj11.1 6 (by decide) rfl).trans a_A3_6
                  refine x_iald hx hb hK hP 6 1 wm6 rfl (by omega) (by decide) dX12_ways_86 (fun z65 hz65 => ?_)
                  have rz65 : (0 : Int) ≤ z65 ∧ z65 ≤ 7 := by rw [hz65]; exact hI 6 _
                  have hz65 : z65 = A 6 (10 * (A 0 12) + z10).toNat := hz65.trans (congrFun a_A12_6 _)
                  refine lv_istore_n (lv' := [(2, .int (iI z65)), (1, .int (iI z10)), (0, .ref (q 0))]) hx hb dX12_ways_87 rfl hl (by decide) rfl (fun ls hl => ?_)
                  refine lv_aload_n hx hb dX12_ways_88 rfl (lv_at hl 2 rfl) ?_
                  refine va_get (D := (dC, dI)) (ci := 12) (v := .ref (q 7)) (C := RX12) (T := TX12) (N := 85) hx hb hts hiX12 hown hK hP 0 wm0 rfl 18 (by decide) (hts _ (List.mem_cons_of_mem _ (wl_in_2 _ (List.mem_of_getElem? (i := 40) rfl)))) (fun _ h9 => h9) rfl dX12_ways_89 ?_
                  refine lv_aload_n hx hb dX12_ways_92 rfl (lv_at hl 2 rfl) ?_
                  refine lv_iload_n hx hb dX12_ways_93 rfl (lv_at hl 1 rfl) ?_
                  refine x_calli (As := [.int (iI z10)]) (rest := [.ref (q 7)]) ⟨hx, hb, hml, hown, hts⟩ (mc_X12_door10 l dC dI cB cI cJ cZ cQ q _ z10 hI (by omega)) (cwV 1 hts (goodV (wl_in_4 _ (List.mem_of_getElem? (i := 49) rfl)) (wl_in_4 _ (List.mem_of_getElem? (i := 50) rfl)) (wl_in_4 _ (List.mem_of_getElem? (i := 51) rfl)) (wl_in_0 _ (List.mem_of_getElem? (i := 8) rfl)) (wl_in_4 _ (List.mem_of_getElem? (i := 42) rfl))) rfl rfl rfl (by decide +kernel) ⟨Nat.le_of_ble_eq_true rfl, Nat.le_of_ble_eq_true rfl⟩) hK hDD hA0 hP hS 0 12 wm0 rfl rfl hl.1 (Nat.le_of_ble_eq_true rfl) dX12_ways_94 (fun z66 A67 H locs hw68 hP hS => ?_)
                  obtain ⟨rfl, hw68⟩ := hw68
                  refine tp_i (y := iI (10 * (A 0 12) + z10)) (congrArg iI (show z66 = 10 * (A 0 12) + z10 by omega)) ?_
                  clear hw68 z66
                  have a_A3_7 : A3 7 = A 7 := (hj2.1 7 (by decide) rfl)
                  have a_A12_7 : A12 7 = A 7 := (hj11.1 7 (by decide) rfl).trans a_A3_7
                  refine x_iald hx hb hK hP 7 1 wm7 rfl (by omega) (by decide) dX12_ways_97 (fun z69 hz69 => ?_)
                  have rz69 : (0 : Int) ≤ z69 ∧ z69 ≤ 7 := by rw [hz69]; exact hI 7 _
                  have hz69 : z69 = A 7 (10 * (A 0 12) + z10).toNat := hz69.trans (congrFun a_A12_7 _)
                  refine lv_istore_n (lv' := [(3, .int (iI z69)), (2, .int (iI z65)), (1, .int (iI z10)), (0, .ref (q 0))]) hx hb dX12_ways_98 rfl hl (by decide) rfl (fun ls hl => ?_)
                  refine lv_aload_n hx hb dX12_ways_99 rfl (lv_at hl 3 rfl) ?_
                  refine va_get (D := (dC, dI)) (ci := 12) (v := .ref (q 9)) (C := RX12) (T := TX12) (N := 85) hx hb hts hiX12 hown hK hP 0 wm0 rfl 20 (by decide) (hts _ (List.mem_cons_of_mem _ (wl_in_2 _ (List.mem_of_getElem? (i := 42) rfl)))) (fun _ h9 => h9) rfl dX12_ways_100 ?_
                  refine lv_aload_n hx hb dX12_ways_103 rfl (lv_at hl 3 rfl) ?_
                  refine lv_iload_n hx hb dX12_ways_104 rfl (lv_at hl 2 rfl) ?_
                  refine x_calli (As := [.int (iI z10)]) (rest := [.ref (q 9)]) ⟨hx, hb, hml, hown, hts⟩ (mc_X12_door10 l dC dI cB cI cJ cZ cQ q _ z10 hI (by omega)) (cwV 1 hts (goodV (wl_in_4 _ (List.mem_of_getElem? (i := 49) rfl)) (wl_in_4 _ (List.mem_of_getElem? (i := 50) rfl)) (wl_in_4 _ (List.mem_of_getElem? (i := 51) rfl)) (wl_in_0 _ (List.mem_of_getElem? (i := 8) rfl)) (wl_in_4 _ (List.mem_of_getElem? (i := 42) rfl))) rfl rfl rfl (by decide +kernel) ⟨Nat.le_of_ble_eq_true rfl, Nat.le_of_ble_eq_true rfl⟩) hK hDD hA0 hP hS 0 12 wm0 rfl rfl hl.1 (Nat.le_of_ble_eq_true rfl) dX12_ways_105 (fun z70 A71 H locs hw72 hP hS => ?_)
                  obtain ⟨rfl, hw72⟩ := hw72
                  refine tp_i (y := iI (10 * (A 0 12) + z10)) (congrArg iI (show z70 = 10 * (A 0 12) + z10 by omega)) ?_
                  clear hw72 z70
                  have a_A3_9 : A3 9 = A 9 := (hj2.1 9 (by decide) rfl)
                  have a_A12_9 : A12 9 = A 9 := (hj11.1 9 (by decide) rfl).trans a_A3_9
                  refine x_iald hx hb hK hP 9 1 wm9 rfl (by omega) (by decide) dX12_ways_108 (fun z73 hz73 => ?_)
                  have rz73 : (-2147483648 : Int) ≤ z73 ∧ z73 ≤ 2147483647 := by rw [hz73]; exact hI 9 _
                  have hz73 : z73 = A 9 (10 * (A 0 12) + z10).toNat := hz73.trans (congrFun a_A12_9 _)
                  refine lv_aload_n hx hb dX12_ways_109 rfl (lv_at hl 3 rfl) ?_
                  refine va_get (D := (dC, dI)) (ci := 12) (v := .ref (q 55)) (C := RX12) (T := TX12) (N := 85) hx hb hts hiX12 hown hK hP 0 wm0 rfl 81 (by decide) (hts _ (List.mem_cons_of_mem _ (wl_in_8 _ (List.mem_of_getElem? (i := 29) rfl)))) (fun _ h9 => h9) rfl dX12_ways_110 ?_
                  refine lv_bipush (v := iI 8) hx hb dX12_ways_113 (by decide +kernel) ?_
                  refine lv_iload_n hx hb dX12_ways_115 rfl (lv_at hl 1 rfl) ?_
                  refine x_mulv (v := 8 * z65) hx hb dX12_ways_116 (by omega) ?_
                  refine lv_iload_n hx hb dX12_ways_117 rfl (lv_at hl 0 rfl) ?_
                  refine x_addv (v := 8 * z65 + z69) hx hb dX12_ways_118 (by omega) ?_
                  refine x_iald hx hb hK hP 55 1 wm55 rfl (by omega) (by decide) dX12_ways_119 (fun z74 hz74 => ?_)
                  have rz74 : (-2147483648 : Int) ≤ z74 ∧ z74 ≤ 2147483647 := by rw [hz74]; exact hI 55 _
                  have hz74 : z74 = A12 55 (8 * z65 + z69).toNat := hz74
                  refine lv_icmp_lt (tgt := 126) hx hb dX12_ways_120 (by decide) (fun c75 => ?_) (fun c75 => ?_)
                  · have c75 : z73 < z74 := (i_lt rz73 rz74).mp c75
                    refine lv_aload_n hx hb dX12_ways_126 rfl (lv_at hl 3 rfl) ?_
                    refine va_get (D := (dC, dI)) (ci := 12) (v := .ref (q 55)) (C := RX12) (T := TX12) (N := 85) hx hb hts hiX12 hown hK hP 0 wm0 rfl 81 (by decide) (hts _ (List.mem_cons_of_mem _ (wl_in_8 _ (List.mem_of_getElem? (i := 29) rfl)))) (fun _ h9 => h9) rfl dX12_ways_127 ?_
                    refine lv_bipush (v := iI 8) hx hb dX12_ways_130 (by decide +kernel) ?_
                    refine lv_iload_n hx hb dX12_ways_132 rfl (lv_at hl 1 rfl) ?_
                    refine x_mulv (v := 8 * z65) hx hb dX12_ways_133 (by omega) ?_
                    refine lv_iload_n hx hb dX12_ways_134 rfl (lv_at hl 0 rfl) ?_
                    refine x_addv (v := 8 * z65 + z69) hx hb dX12_ways_135 (by omega) ?_
                    refine lv_aload_n hx hb dX12_ways_136 rfl (lv_at hl 3 rfl) ?_
                    refine va_get (D := (dC, dI)) (ci := 12) (v := .ref (q 9)) (C := RX12) (T := TX12) (N := 85) hx hb hts hiX12 hown hK hP 0 wm0 rfl 20 (by decide) (hts _ (List.mem_cons_of_mem _ (wl_in_2 _ (List.mem_of_getElem? (i := 42) rfl)))) (fun _ h9 => h9) rfl dX12_ways_137 ?_
                    refine lv_aload_n hx hb dX12_ways_140 rfl (lv_at hl 3 rfl) ?_
                    refine lv_iload_n hx hb dX12_ways_141 rfl (lv_at hl 2 rfl) ?_
                    refine x_calli (As := [.int (iI z10)]) (rest := [.ref (q 9), .int (iI (8 * z65 + z69)), .ref (q 55)]) ⟨hx, hb, hml, hown, hts⟩ (mc_X12_door10 l dC dI cB cI cJ cZ cQ q _ z10 hI (by omega)) (cwV 1 hts (goodV (wl_in_4 _ (List.mem_of_getElem? (i := 49) rfl)) (wl_in_4 _ (List.mem_of_getElem? (i := 50) rfl)) (wl_in_4 _ (List.mem_of_getElem? (i := 51) rfl)) (wl_in_0 _ (List.mem_of_getElem? (i := 8) rfl)) (wl_in_4 _ (List.mem_of_getElem? (i := 42) rfl))) rfl rfl rfl (by decide +kernel) ⟨Nat.le_of_ble_eq_true rfl, Nat.le_of_ble_eq_true rfl⟩) hK hDD hA0 hP hS 0 12 wm0 rfl rfl hl.1 (Nat.le_of_ble_eq_true rfl) dX12_ways_142 (fun z76 A77 H locs hw78 hP hS => ?_)
                    obtain ⟨rfl, hw78⟩ := hw78
                    refine tp_i (y := iI (10 * (A 0 12) + z10)) (congrArg iI (show z76 = 10 * (A 0 12) + z10 by omega)) ?_
                    clear hw78 z76
                    refine x_iald hx hb hK hP 9 1 wm9 rfl (by omega) (by decide) dX12_ways_145 (fun z79 hz79 => ?_)
                    have rz79 : (-2147483648 : Int) ≤ z79 ∧ z79 ≤ 2147483647 := by rw [hz79]; exact hI 9 _
                    have hz79 : z79 = A 9 (10 * (A 0 12) + z10).toNat := hz79.trans (congrFun a_A12_9 _)
                    have ez79 : z79 = z73 := hz79.trans hz73.symm
                    refine x_iast hx hb hK hP hDD hS 55 1 wm55 rfl (by omega) (by decide) dX12_ways_146 ws55 (fun H locs hP hS => ?_)
                    have hI := hI.st (j := 55) (i := (8 * z65 + z69).toNat) (v := z79) (show (-2147483648 : Int) ≤ z79 ∧ z79 ≤ 2147483647 from (by omega))
                    refine lv_aload_n hx hb dX12_ways_147 rfl (lv_at hl 3 rfl) ?_
                    refine va_get (D := (dC, dI)) (ci := 12) (v := .ref (q 55)) (C := RX12) (T := TX12) (N := 85) hx hb hts hiX12 hown hK hP 0 wm0 rfl 81 (by decide) (hts _ (List.mem_cons_of_mem _ (wl_in_8 _ (List.mem_of_getElem? (i := 29) rfl)))) (fun _ h9 => h9) rfl dX12_ways_148 ?_
                    refine lv_bipush (v := iI 8) hx hb dX12_ways_151 (by decide +kernel) ?_
                    refine lv_iload_n hx hb dX12_ways_153 rfl (lv_at hl 0 rfl) ?_
                    refine x_mulv (v := 8 * z69) hx hb dX12_ways_154 (by omega) ?_
                    refine lv_iload_n hx hb dX12_ways_155 rfl (lv_at hl 1 rfl) ?_
                    refine x_addv (v := 8 * z69 + z65) hx hb dX12_ways_156 (by omega) ?_
                    refine lv_aload_n hx hb dX12_ways_157 rfl (lv_at hl 3 rfl) ?_
                    refine va_get (D := (dC, dI)) (ci := 12) (v := .ref (q 9)) (C := RX12) (T := TX12) (N := 85) hx hb hts hiX12 hown hK hP 0 wm0 rfl 20 (by decide) (hts _ (List.mem_cons_of_mem _ (wl_in_2 _ (List.mem_of_getElem? (i := 42) rfl)))) (fun _ h9 => h9) rfl dX12_ways_158 ?_
                    refine lv_aload_n hx hb dX12_ways_161 rfl (lv_at hl 3 rfl) ?_
                    refine lv_iload_n hx hb dX12_ways_162 rfl (lv_at hl 2 rfl) ?_
                    obtain ⟨A80, hA80⟩ : ∃ A80 : St, A80 = (stA A12 55 (8 * z65 + z69).toNat z79) := ⟨_, rfl⟩
                    rw [← hA80] at hP hI
                    have e_A80_12 : A80 0 12 = (A 0 12) := by rw [hA80]; exact e_A12_12
                    refine x_calli (As := [.int (iI z10)]) (rest := [.ref (q 9), .int (iI (8 * z69 + z65)), .ref (q 55)]) ⟨hx, hb, hml, hown, hts⟩ (mc_X12_door10 l dC dI cB cI cJ cZ cQ q _ z10 hI (by omega)) (cwV 1 hts (goodV (wl_in_4 _ (List.mem_of_getElem? (i := 49) rfl)) (wl_in_4 _ (List.mem_of_getElem? (i := 50) rfl)) (wl_in_4 _ (List.mem_of_getElem? (i := 51) rfl)) (wl_in_0 _ (List.mem_of_getElem? (i := 8) rfl)) (wl_in_4 _ (List.mem_of_getElem? (i := 42) rfl))) rfl rfl rfl (by decide +kernel) ⟨Nat.le_of_ble_eq_true rfl, Nat.le_of_ble_eq_true rfl⟩) hK hDD hA0 hP hS 0 12 wm0 rfl rfl hl.1 (Nat.le_of_ble_eq_true rfl) dX12_ways_163 (fun z81 A82 H locs hw83 hP hS => ?_)
                    obtain ⟨rfl, hw83⟩ := hw83
                    refine tp_i (y := iI (10 * (A 0 12) + z10)) (congrArg iI (show z81 = 10 * (A 0 12) + z10 by omega)) ?_
                    clear hw83 z81
                    have a_A80_9 : A80 9 = A 9 := by rw [hA80]; exact a_A12_9
                    refine x_iald hx hb hK hP 9 1 wm9 rfl (by omega) (by decide) dX12_ways_166 (fun z84 hz84 => ?_)
                    have rz84 : (-2147483648 : Int) ≤ z84 ∧ z84 ≤ 2147483647 := by rw [hz84]; exact hI 9 _
                    have hz84 : z84 = A 9 (10 * (A 0 12) + z10).toNat := hz84.trans (congrFun a_A80_9 _)
                    have ez84 : z84 = z73 := hz84.trans hz73.symm
                    refine x_iast hx hb hK hP hDD hS 55 1 wm55 rfl (by omega) (by decide) dX12_ways_167 ws55 (fun H locs hP hS => ?_)
                    have hI := hI.st (j := 55) (i := (8 * z69 + z65).toNat) (v := z84) (show (-2147483648 : Int) ≤ z84 ∧ z84 ≤ 2147483647 from (by omega))
                    exact J168_57 _ _ _ _ hI (fr.st (fr_def hA80 (fr.st (fr.rf) (by decide) rfl)) (by decide) rfl) hP hS (lv_sub hl [2, 3] rfl)
                  · have c75 : ¬ z73 < z74 := mt (i_lt rz73 rz74).mpr c75
                    refine lv_goto (tgt := 168) hx hb dX12_ways_123 (by decide) ?_
                    exact J168_57 _ _ _ _ hI (fr.rf) hP hS (lv_sub hl [2, 3] rfl)
                · have c61 : ¬ z58 = 0 := mt (i_eq0 (rb hw60 (by decide) (by decide))).mpr c61
                  refine lv_goto (tgt := 168) hx hb dX12_ways_74 (by decide) ?_
                  exact J168_57 _ _ _ _ hI (fr.rf) hP hS (lv_sub hl [0, 1] rfl)
        exact L40_14 _ 0 _ _ _ _ (by omega) (by omega) rfl hI (fr.rf) hP hS (lv_sub hl [0, 1] rfl)
      · have c9 : ¬ 64 ≤ z1 := mt (i_le ⟨by decide, by decide⟩ (rb f8 (by decide) (by decide))).mpr c9
        refine lv_aload_n hx hb dX12_ways_8 rfl (lv_at hl 1 rfl) ?_
        refine va_get (D := (dC, dI)) (ci := 12) (v := .ref (q 55)) (C := RX12) (T := TX12) (N := 85) hx hb hts hiX12 hown hK hP 0 wm0 rfl 81 (by decide) (hts _ (List.mem_cons_of_mem _ (wl_in_8 _ (List.mem_of_getElem? (i := 29) rfl)))) (fun _ h9 => h9) rfl dX12_ways_9 ?_
        refine lv_iload_n hx hb dX12_ways_12 rfl (lv_at hl 0 rfl) ?_
        refine lv_iload_n hx hb dX12_ways_13 rfl (lv_at hl 0 rfl) ?_
        refine lv_bipush (v := iI 8) hx hb dX12_ways_14 (by decide +kernel) ?_
        refine x_div hx hb dX12_ways_16 (by omega) (by omega) (fun z87 hz87 hz87b => ?_)
        refine lv_iload_n hx hb dX12_ways_17 rfl (lv_at hl 0 rfl) ?_
        refine lv_bipush (v := iI 8) hx hb dX12_ways_18 (by decide +kernel) ?_
        refine x_rem hx hb dX12_ways_20 (by omega) (by omega) (fun z88 hz88 hz88b => ?_)
        have J31_90 : ∀ (z91 : Int) (H : Heap) (locs : List Loc) (ls : Array Slot), (0 ≤ z91 ∧ z91 ≤ 1000000) → ((z91 = 1000000 ∧ ¬ z87 = z88) ∨ (z91 = 0 ∧ z87 = z88)) → va_P (dC, dI) vwCl (WM cI cJ cZ q A3) H → va_S AS s.heap H locs → lv_has ls 4 [(1, .int (iI z1)), (0, .ref (q 0))] → W p l e (headSpec ws_mc_X12_ways ({ frames := 3, cells := 0, slots := 0, locals := 67 } : Room)).room s m [.ref (q 0)].toArray below meth c H locs 0 0 Q (F0 m 31 ls [.int (iI z91), .int (iI z1), .ref (q 55)]) := by
          intro z91 H locs ls f93 f94 hP hS hl
          refine x_iast hx hb hK hP hDD hS 55 1 wm55 rfl (by omega) (by decide) dX12_ways_31 ws55 (fun H locs hP hS => ?_)
          have hI := hI.st (j := 55) (i := (z1).toNat) (v := z91) (show (-2147483648 : Int) ≤ z91 ∧ z91 ≤ 2147483647 from (by omega))
          refine lv_iinc (v := iI (z1 + 1)) (lv' := [(1, .int (iI (z1 + 1))), (0, .ref (q 0))]) hx hb dX12_ways_32 hl (k := 0) rfl (i_inc (by omega)) (by decide) rfl (fun ls hl => ?_)
          refine lv_goto (tgt := 2) hx hb dX12_ways_35 (by decide) ?_
          obtain ⟨A95, hA95⟩ : ∃ A95 : St, A95 = (stA A3 55 (z1).toNat z91) := ⟨_, rfl⟩
          rw [← hA95] at hP hI
          exact ih5 _ (by omega) (z1 + 1) _ _ _ _ (by omega) (by omega) rfl hI (fr_def hA95 (fr.st (fr.trans (fr.rf) hj2 rfl rfl) (by decide) rfl)) hP hS (lv_sub hl [0, 1] rfl)
        refine lv_icmp_ne (tgt := 28) hx hb dX12_ways_21 (by decide) (fun c89 => ?_) (fun c89 => ?_)
        · have c89 : ¬ z87 = z88 := mt (i_eq (by omega) (by omega)).mpr c89
          refine lv_ldcw (v := 1000000) hx hb hown (hts _ (List.mem_cons_of_mem _ (wl_in_8 _ (List.mem_of_getElem? (i := 30) rfl)))) dX12_ways_28 ?_
          refine tp_i (y := iI 1000000) (by decide +kernel) ?_
          exact J31_90 1000000 _ _ _ (by omega) (by omega) hP hS (lv_sub hl [0, 1] rfl)
        · have c89 : z87 = z88 := (i_eq (by omega) (by omega)).mp c89
          refine lv_iconst (v := iI 0) hx hb dX12_ways_24 (by decide +kernel) ?_
          refine lv_goto (tgt := 31) hx hb dX12_ways_25 (by decide) ?_
          exact J31_90 0 _ _ _ (by omega) (by omega) hP hS (lv_sub hl [0, 1] rfl)
  exact L2_4 _ 0 _ _ _ _ (by omega) (by omega) rfl hI (fr.rf) hP hS (lv_sub hl [0, 1] rfl)

def ws_mc_X12_round : List Cond := .code yX12_round cX12_round 11 (some .int) :: WX
set_option maxHeartbeats 4000000 in
set_option maxRecDepth 100000 in
theorem mc_X12_round (l : Launch) (dC : Nat → ClassId) (dI : Nat → Nat → Nat) (cB cI cJ cZ cQ : ClassId) (q : Nat → Nat) (A : St) (x1 x2 : Int) (hI : IM A) (hx1 : (-2147483648 : Int) ≤ x1 ∧ x1 ≤ 2147483647) (hx2 : (-2147483648 : Int) ≤ x2 ∧ x2 ≤ 2147483647) : XMi l yX12_round ws_mc_X12_round ({ frames := 4, cells := 0, slots := 0, locals := 90 } : Room) (dC, dI) (tyA cB cI cJ cZ cQ) (WM cI cJ cZ q) A [.ref (q 0), .int (iI x1), .int (iI x2)] (fun z u => IM u ∧ fr [55, 56] [] A u ∧ (-2147483648 ≤ z ∧ z ≤ 2147483647)) := by
  refine x_meti (cc := cX12_round) (maxL := 11) WM_adr (by decide +kernel) rfl (Nat.le_of_ble_eq_true rfl) (fun p e s m below meth c Q AS ls hx hb hml hown hts hK hDD hA0 hP hS hl RET => ?_)
  have hown : s.vm.findClass RX12 = some m.cls := hown
  have hl : lv_has ls 11 [(0, .ref (q 0)), (1, .int (iI x1)), (2, .int (iI x2))] := hl
  have hiX12 : ∀ w ∈ u_ws RX12 TX12 85, w ∈ ws_mc_X12_round := fun w h => List.mem_cons_of_mem _ (wx_lay w h)
  obtain ⟨H, hHe⟩ : ∃ H : Heap, H = s.heap := ⟨_, rfl⟩
  rw [← hHe] at hP
  have hS : va_S AS s.heap H [] := by rw [hHe]; exact hS
  suffices hgo : ∀ locs : List Loc, va_S AS s.heap H locs → W p l e (headSpec ws_mc_X12_round ({ frames := 4, cells := 0, slots := 0, locals := 90 } : Room)).room s m [.ref (q 0), .int (iI x1), .int (iI x2)].toArray below meth c H locs 0 0 Q (F0 m 0 ls []) by
    have := hgo [] hS
    rw [hHe] at this
    exact this
  clear hS hHe
  intro locs hS
  refine lv_aload_n hx hb dX12_round_0 rfl (lv_at hl 0 rfl) ?_
  refine lv_iload_n hx hb dX12_round_1 rfl (lv_at hl 1 rfl) ?_
  have r_A_0_12 : (0 : Int) ≤ (A 0 12) ∧ (A 0 12) ≤ 1 := hI 0 12
  refine x_calli (As := [.int (iI x1)]) (rest := []) ⟨hx, hb, hml, hown, hts⟩ (mc_X12_isPersonB l dC dI cB cI cJ cZ cQ q _ x1 hI hx1) (cwV 1 hts (goodV (wl_in_5 _ (List.mem_of_getElem? (i := 55) rfl)) (wl_in_5 _ (List.mem_of_getElem? (i := 56) rfl)) (wl_in_5 _ (List.mem_of_getElem? (i := 57) rfl)) (wl_in_0 _ (List.mem_of_getElem? (i := 8) rfl)) (wl_in_4 _ (List.mem_of_getElem? (i := 40) rfl))) rfl rfl rfl (by decide +kernel) ⟨Nat.le_of_ble_eq_true rfl, Nat.le_of_ble_eq_true rfl⟩) hK hDD hA0 hP hS 0 12 wm0 rfl rfl hl.1 (Nat.le_of_ble_eq_true rfl) dX12_round_2 (fun z1 A2 H locs hw3 hP hS => ?_)
  obtain ⟨rfl, hw3⟩ := hw3
  have rz1 : 0 ≤ z1 ∧ z1 ≤ 1 := hw3.1
  refine lv_if_ne (tgt := 10) hx hb dX12_round_5 (by decide) (fun c4 => ?_) (fun c4 => ?_)
  · have c4 : ¬ z1 = 0 := mt (i_eq0 (rb rz1 (by decide) (by decide))).mpr c4
    have hw3b := hw3.2.mp (by omega)
    clear hw3
    refine lv_aload_n hx hb dX12_round_10 rfl (lv_at hl 0 rfl) ?_
    refine x_callv (As := []) (rest := []) ⟨hx, hb, hml, hown, hts⟩ (mc_X12_ways l dC dI cB cI cJ cZ cQ q _ hI) (cwV 0 hts (goodV (wl_in_8 _ (List.mem_of_getElem? (i := 33) rfl)) (wl_in_8 _ (List.mem_of_getElem? (i := 34) rfl)) (wl_in_8 _ (List.mem_of_getElem? (i := 35) rfl)) (wl_in_0 _ (List.mem_of_getElem? (i := 8) rfl)) (wl_in_8 _ (List.mem_of_getElem? (i := 28) rfl))) rfl rfl rfl (by decide +kernel) ⟨Nat.le_of_ble_eq_true rfl, Nat.le_of_ble_eq_true rfl⟩) hK hDD hA0 hP hS 0 12 wm0 rfl rfl hl.1 (Nat.le_of_ble_eq_true rfl) dX12_round_11 (fun A5 H locs hw6 hP hS => ?_)
    obtain ⟨hI, hf7, hw6⟩ := hw6
    clear hw6
    refine lv_aload_n hx hb dX12_round_14 rfl (lv_at hl 0 rfl) ?_
    refine lv_iload_n hx hb dX12_round_15 rfl (lv_at hl 1 rfl) ?_
    refine x_calli (As := [.int (iI x1)]) (rest := []) ⟨hx, hb, hml, hown, hts⟩ (mc_X12_placeOf l dC dI cB cI cJ cZ cQ q _ x1 hI (by omega)) (cwV 1 hts (goodV (wl_in_5 _ (List.mem_of_getElem? (i := 35) rfl)) (wl_in_5 _ (List.mem_of_getElem? (i := 36) rfl)) (wl_in_5 _ (List.mem_of_getElem? (i := 37) rfl)) (wl_in_0 _ (List.mem_of_getElem? (i := 8) rfl)) (wl_in_5 _ (List.mem_of_getElem? (i := 25) rfl))) rfl rfl rfl (by decide +kernel) ⟨Nat.le_of_ble_eq_true rfl, Nat.le_of_ble_eq_true rfl⟩) hK hDD hA0 hP hS 0 12 wm0 rfl rfl hl.1 (Nat.le_of_ble_eq_true rfl) dX12_round_16 (fun z8 A9 H locs hw10 hP hS => ?_)
    obtain ⟨rfl, hw10⟩ := hw10
    refine lv_istore_n (lv' := [(3, .int (iI z8)), (0, .ref (q 0)), (1, .int (iI x1)), (2, .int (iI x2))]) hx hb dX12_round_19 rfl hl (by decide) rfl (fun ls hl => ?_)
    refine lv_iload_n hx hb dX12_round_20 rfl (lv_at hl 3 rfl) ?_
    refine lv_iconst (v := iI 1) hx hb dX12_round_21 (by decide +kernel) ?_
    refine lv_aload_n hx hb dX12_round_22 rfl (lv_at hl 1 rfl) ?_
    refine va_get (D := (dC, dI)) (ci := 12) (v := .ref (q 2)) (C := RX12) (T := TX12) (N := 85) hx hb hts hiX12 hown hK hP 0 wm0 rfl 13 (by decide) (hts _ (List.mem_cons_of_mem _ (wl_in_1 _ (List.mem_of_getElem? (i := 11) rfl)))) (fun _ h9 => h9) rfl dX12_round_23 ?_
    refine lv_aload_n hx hb dX12_round_26 rfl (lv_at hl 1 rfl) ?_
    have e_A5_12 : A5 0 12 = (A 0 12) := (hf7.2 12 rfl)
    refine va_get (D := (dC, dI)) (ci := 12) (v := .int (iI (A5 0 12))) (C := RX12) (T := TX12) (N := 85) hx hb hts hiX12 hown hK hP 0 wm0 rfl 12 (by decide) (hts _ (List.mem_cons_of_mem _ (wl_in_4 _ (List.mem_of_getElem? (i := 14) rfl)))) (fun _ h9 => h9) rfl dX12_round_27 ?_
    refine tp_i (y := iI (A 0 12)) (congrArg iI e_A5_12) ?_
    have a_A5_2 : A5 2 = A 2 := (hf7.1 2 (by decide) rfl)
    refine x_iald hx hb hK hP 2 1 wm2 rfl (by omega) (by decide) dX12_round_30 (fun z11 hz11 => ?_)
    have rz11 : (0 : Int) ≤ z11 ∧ z11 ≤ 8 := by rw [hz11]; exact hI 2 _
    have hz11 : z11 = A 2 ((A 0 12)).toNat := hz11.trans (congrFun a_A5_2 _)
    refine x_shl1 (M := 8) (t := 256) hx hb dX12_round_31 (by omega) (by decide) (by decide) (fun z12 hz12 => ?_)
    refine lv_iconst (v := iI 1) hx hb dX12_round_32 (by decide +kernel) ?_
    refine x_subv (v := z12 - 1) hx hb dX12_round_33 (by omega) ?_
    refine lv_iand hx hb dX12_round_34 ?_
    refine x_abs (fun z13 hz13 => ?_)
    refine lv_istore (lv' := [(4, .int (iI z13)), (3, .int (iI z8)), (0, .ref (q 0)), (1, .int (iI x1)), (2, .int (iI x2))]) hx hb dX12_round_35 hl (by decide) rfl (fun ls hl => ?_)
    refine lv_iconst (v := iI 0) hx hb dX12_round_37 (by decide +kernel) ?_
    refine lv_istore (lv' := [(5, .int (iI 0)), (4, .int (iI z13)), (3, .int (iI z8)), (0, .ref (q 0)), (1, .int (iI x1)), (2, .int (iI x2))]) hx hb dX12_round_38 hl (by decide) rfl (fun ls hl => ?_)
    have L40_17 : ∀ (n19 : Nat) (z14 : Int) (A16 : St) (H : Heap) (locs : List Loc) (ls : Array Slot), (0 ≤ z14) → (0 ≤ z14 ∧ z14 ≤ 2147483647) → ((2048 - z14 + 1).toNat = n19) → IM A16 → fr [56] [] A5 A16 → va_P (dC, dI) vwCl (WM cI cJ cZ q A16) H → va_S AS s.heap H locs → lv_has ls 11 [(5, .int (iI z14)), (4, .int (iI z13)), (3, .int (iI z8)), (0, .ref (q 0)), (1, .int (iI x1)), (2, .int (iI x2))] → W p l e (headSpec ws_mc_X12_round ({ frames := 4, cells := 0, slots := 0, locals := 90 } : Room)).room s m [.ref (q 0), .int (iI x1), .int (iI x2)].toArray below meth c H locs 0 0 Q (F0 m 40 ls []) := by
      intro n19
      induction n19 using Nat.strongRecOn with
      | ind n19 ih18 =>
        intro z14 A16 H locs ls f20 f21 hn19 hI hj15 hP hS hl
        refine lv_iload hx hb dX12_round_40 (lv_at hl 0 rfl) ?_
        refine lv_sipush (v := iI 2048) hx hb dX12_round_42 (by decide +kernel) ?_
        refine lv_icmp_ge (tgt := 64) hx hb dX12_round_45 (by decide) (fun c22 => ?_) (fun c22 => ?_)
        · have c22 : 2048 ≤ z14 := (i_le ⟨by decide, by decide⟩ (rb f21 (by decide) (by decide))).mp c22
          refine lv_aload_n hx hb dX12_round_64 rfl (lv_at hl 3 rfl) ?_
          refine va_get (D := (dC, dI)) (ci := 12) (v := .ref (q 56)) (C := RX12) (T := TX12) (N := 85) hx hb hts hiX12 hown hK hP 0 wm0 rfl 82 (by decide) (hts _ (List.mem_cons_of_mem _ (wl_in_8 _ (List.mem_of_getElem? (i := 32) rfl)))) (fun _ h9 => h9) rfl dX12_round_65 ?_
          refine lv_bipush (v := iI 8) hx hb dX12_round_68 (by decide +kernel) ?_
          refine lv_iconst (v := iI 1) hx hb dX12_round_70 (by decide +kernel) ?_
          refine lv_iload_n hx hb dX12_round_71 rfl (lv_at hl 2 rfl) ?_
          refine x_shl1 (M := 7) (t := 128) hx hb dX12_round_72 (by omega) (by decide) (by decide) (fun z23 hz23 => ?_)
          refine x_mulv (v := 8 * z23) hx hb dX12_round_73 (by omega) ?_
          refine lv_iload_n hx hb dX12_round_74 rfl (lv_at hl 2 rfl) ?_
          refine x_addv (v := 8 * z23 + z8) hx hb dX12_round_75 (by omega) ?_
          refine lv_iconst (v := iI 0) hx hb dX12_round_76 (by decide +kernel) ?_
          refine x_iast hx hb hK hP hDD hS 56 1 wm56 rfl (by omega) (by decide) dX12_round_77 ws56 (fun H locs hP hS => ?_)
          have hI := hI.st (j := 56) (i := (8 * z23 + z8).toNat) (v := 0) (show (-2147483648 : Int) ≤ 0 ∧ 0 ≤ 2147483647 from (by omega))
          refine lv_ldcw (v := 1000000) hx hb hown (hts _ (List.mem_cons_of_mem _ (wl_in_8 _ (List.mem_of_getElem? (i := 30) rfl)))) dX12_round_78 ?_
          refine tp_i (y := iI 1000000) (by decide +kernel) ?_
          refine lv_istore (lv' := [(5, .int (iI 1000000)), (4, .int (iI z13)), (3, .int (iI z8)), (0, .ref (q 0)), (1, .int (iI x1)), (2, .int (iI x2))]) hx hb dX12_round_81 hl (by decide) rfl (fun ls hl => ?_)
          refine lv_iconst (v := iI 0) hx hb dX12_round_83 (by decide +kernel) ?_
          refine lv_istore (lv' := [(6, .int (iI 0)), (5, .int (iI 1000000)), (4, .int (iI z13)), (3, .int (iI z8)), (0, .ref (q 0)), (1, .int (iI x1)), (2, .int (iI x2))]) hx hb dX12_round_84 hl (by decide) rfl (fun ls hl => ?_)
          obtain ⟨A24, hA24⟩ : ∃ A24 : St, A24 = (stA A16 56 (8 * z23 + z8).toNat 0) := ⟨_, rfl⟩
          rw [← hA24] at hP hI
          have L86_29 : ∀ (n31 : Nat) (z25 z26 : Int) (A28 : St) (H : Heap) (locs : List Loc) (ls : Array Slot), (0 ≤ z25) → (0 ≤ z25 ∧ z25 ≤ 2147483647) → (-2147483648 ≤ z26 ∧ z26 ≤ 2147483647) → ((256 - z25 + 1).toNat = n31) → IM A28 → fr [56] [] A24 A28 → va_P (dC, dI) vwCl (WM cI cJ cZ q A28) H → va_S AS s.heap H locs → lv_has ls 11 [(6, .int (iI z25)), (5, .int (iI z26)), (4, .int (iI z13)), (3, .int (iI z8)), (0, .ref (q 0)), (1, .int (iI x1)), (2, .int (iI x2))] → W p l e (headSpec ws_mc_X12_round ({ frames := 4, cells := 0, slots := 0, locals := 90 } : Room)).room s m [.ref (q 0), .int (iI x1), .int (iI x2)].toArray below meth c H locs 0 0 Q (F0 m 86 ls []) := by
            intro n31
            induction n31 using Nat.strongRecOn with
            | ind n31 ih30 =>
              intro z25 z26 A28 H locs ls f32 f33 f34 hn31 hI hj27 hP hS hl
              refine lv_iload hx hb dX12_round_86 (lv_at hl 0 rfl) ?_
              refine lv_sipush (v := iI 256) hx hb dX12_round_88 (by decide +kernel) ?_
              refine lv_icmp_ge (tgt := 279) hx hb dX12_round_91 (by decide) (fun c35 => ?_) (fun c35 => ?_)
              · have c35 : 256 ≤ z25 := (i_le ⟨by decide, by decide⟩ (rb f33 (by decide) (by decide))).mp c35
                refine lv_iload hx hb dX12_round_279 (lv_at hl 1 rfl) ?_
                refine lv_ldcw (v := 1000000) hx hb hown (hts _ (List.mem_cons_of_mem _ (wl_in_8 _ (List.mem_of_getElem? (i := 30) rfl)))) dX12_round_281 ?_
                refine tp_i (y := iI 1000000) (by decide +kernel) ?_
                refine lv_icmp_lt (tgt := 291) hx hb dX12_round_284 (by decide) (fun c36 => ?_) (fun c36 => ?_)
                · have c36 : z26 < 1000000 := (i_lt f34 ⟨by decide, by decide⟩).mp c36
                  refine lv_iload hx hb dX12_round_291 (lv_at hl 1 rfl) ?_
                  exact RET z26 _ _ _ _ _ ⟨hI, fr.trans (fr_def hA24 (fr.st (fr.trans (fr.trans (fr.rf) hf7 rfl rfl) hj15 rfl rfl) (by decide) rfl)) hj27 rfl rfl, by omega⟩ hP hS dX12_round_293
                · have c36 : ¬ z26 < 1000000 := mt (i_lt f34 ⟨by decide, by decide⟩).mpr c36
                  refine lv_iconst (v := iI (-1)) hx hb dX12_round_287 (by decide +kernel) ?_
                  refine lv_goto (tgt := 293) hx hb dX12_round_288 (by decide) ?_
                  exact RET (-1) _ _ _ _ _ ⟨hI, fr.trans (fr_def hA24 (fr.st (fr.trans (fr.trans (fr.rf) hf7 rfl rfl) hj15 rfl rfl) (by decide) rfl)) hj27 rfl rfl, by omega⟩ hP hS dX12_round_293
              · have c35 : ¬ 256 ≤ z25 := mt (i_le ⟨by decide, by decide⟩ (rb f33 (by decide) (by decide))).mpr c35
                refine lv_iconst (v := iI 0) hx hb dX12_round_94 (by decide +kernel) ?_
                refine lv_istore (lv' := [(7, .int (iI 0)), (6, .int (iI z25)), (5, .int (iI z26)), (4, .int (iI z13)), (3, .int (iI z8)), (0, .ref (q 0)), (1, .int (iI x1)), (2, .int (iI x2))]) hx hb dX12_round_95 hl (by decide) rfl (fun ls hl => ?_)
                have L97_41 : ∀ (n43 : Nat) (z37 z38 : Int) (A40 : St) (H : Heap) (locs : List Loc) (ls : Array Slot), (0 ≤ z37) → (0 ≤ z37 ∧ z37 ≤ 2147483647) → (-2147483648 ≤ z38 ∧ z38 ≤ 2147483647) → ((8 - z37 + 1).toNat = n43) → IM A40 → fr [56] [] A28 A40 → va_P (dC, dI) vwCl (WM cI cJ cZ q A40) H → va_S AS s.heap H locs → lv_has ls 11 [(7, .int (iI z37)), (6, .int (iI z25)), (5, .int (iI z38)), (4, .int (iI z13)), (3, .int (iI z8)), (0, .ref (q 0)), (1, .int (iI x1)), (2, .int (iI x2))] → W p l e (headSpec ws_mc_X12_round ({ frames := 4, cells := 0, slots := 0, locals := 90 } : Room)).room s m [.ref (q 0), .int (iI x1), .int (iI x2)].toArray below meth c H locs 0 0 Q (F0 m 97 ls []) := by
                  intro n43
                  induction n43 using Nat.strongRecOn with
                  | ind n43 ih42 =>
                    intro z37 z38 A40 H locs ls f44 f45 f46 hn43 hI hj39 hP hS hl
                    refine lv_iload hx hb dX12_round_97 (lv_at hl 0 rfl) ?_
                    refine lv_bipush (v := iI 8) hx hb dX12_round_99 (by decide +kernel) ?_
                    refine lv_icmp_ge (tgt := 273) hx hb dX12_round_101 (by decide) (fun c47 => ?_) (fun c47 => ?_)
                    · have c47 : 8 ≤ z37 := (i_le ⟨by decide, by decide⟩ (rb f45 (by decide) (by decide))).mp c47
                      refine lv_iinc (v := iI (z25 + 1)) (lv' := [(6, .int (iI (z25 + 1))), (7, .int (iI z37)), (5, .int (iI z38)), (4, .int (iI z13)), (3, .int (iI z8)), (0, .ref (q 0)), (1, .int (iI x1)), (2, .int (iI x2))]) hx hb dX12_round_273 hl (k := 1) rfl (i_inc (by omega)) (by decide) rfl (fun ls hl => ?_)
                      refine lv_goto (tgt := 86) hx hb dX12_round_276 (by decide) ?_
                      exact ih30 _ (by omega) (z25 + 1) z38 _ _ _ _ (by omega) (by omega) (by omega) rfl hI (fr.trans (fr.trans (fr.rf) hj27 rfl rfl) hj39 rfl rfl) hP hS (lv_sub hl [0, 2, 3, 4, 5, 6, 7] rfl)
                    · have c47 : ¬ 8 ≤ z37 := mt (i_le ⟨by decide, by decide⟩ (rb f45 (by decide) (by decide))).mpr c47
                      refine lv_aload_n hx hb dX12_round_104 rfl (lv_at hl 5 rfl) ?_
                      refine va_get (D := (dC, dI)) (ci := 12) (v := .ref (q 56)) (C := RX12) (T := TX12) (N := 85) hx hb hts hiX12 hown hK hP 0 wm0 rfl 82 (by decide) (hts _ (List.mem_cons_of_mem _ (wl_in_8 _ (List.mem_of_getElem? (i := 32) rfl)))) (fun _ h9 => h9) rfl dX12_round_105 ?_
                      refine lv_bipush (v := iI 8) hx hb dX12_round_108 (by decide +kernel) ?_
                      refine lv_iload hx hb dX12_round_110 (lv_at hl 1 rfl) ?_
                      refine x_mulv (v := 8 * z25) hx hb dX12_round_112 (by omega) ?_
                      refine lv_iload hx hb dX12_round_113 (lv_at hl 0 rfl) ?_
                      refine x_addv (v := 8 * z25 + z37) hx hb dX12_round_115 (by omega) ?_
                      refine x_iald hx hb hK hP 56 1 wm56 rfl (by omega) (by decide) dX12_round_116 (fun z48 hz48 => ?_)
                      have rz48 : (-2147483648 : Int) ≤ z48 ∧ z48 ≤ 2147483647 := by rw [hz48]; exact hI 56 _
                      have hz48 : z48 = A40 56 (8 * z25 + z37).toNat := hz48
                      refine lv_istore (lv' := [(8, .int (iI z48)), (7, .int (iI z37)), (6, .int (iI z25)), (5, .int (iI z38)), (4, .int (iI z13)), (3, .int (iI z8)), (0, .ref (q 0)), (1, .int (iI x1)), (2, .int (iI x2))]) hx hb dX12_round_117 hl (by decide) rfl (fun ls hl => ?_)
                      refine lv_iload hx hb dX12_round_119 (lv_at hl 0 rfl) ?_
                      refine lv_ldcw (v := 1000000) hx hb hown (hts _ (List.mem_cons_of_mem _ (wl_in_8 _ (List.mem_of_getElem? (i := 30) rfl)))) dX12_round_121 ?_
                      refine tp_i (y := iI 1000000) (by decide +kernel) ?_
                      have J267_50 : ∀ (z85 : Int) (A87 : St) (H : Heap) (locs : List Loc) (ls : Array Slot), (-2147483648 ≤ z85 ∧ z85 ≤ 2147483647) → IM A87 → fr [56] [] A40 A87 → va_P (dC, dI) vwCl (WM cI cJ cZ q A87) H → va_S AS s.heap H locs → lv_has ls 11 [(8, .int (iI z48)), (7, .int (iI z37)), (6, .int (iI z25)), (5, .int (iI z85)), (4, .int (iI z13)), (3, .int (iI z8)), (0, .ref (q 0)), (1, .int (iI x1)), (2, .int (iI x2))] → W p l e (headSpec ws_mc_X12_round ({ frames := 4, cells := 0, slots := 0, locals := 90 } : Room)).room s m [.ref (q 0), .int (iI x1), .int (iI x2)].toArray below meth c H locs 0 0 Q (F0 m 267 ls []) := by
                        intro z85 A87 H locs ls f88 hI hj86 hP hS hl
                        refine lv_iinc (v := iI (z37 + 1)) (lv' := [(7, .int (iI (z37 + 1))), (8, .int (iI z48)), (6, .int (iI z25)), (5, .int (iI z85)), (4, .int (iI z13)), (3, .int (iI z8)), (0, .ref (q 0)), (1, .int (iI x1)), (2, .int (iI x2))]) hx hb dX12_round_267 hl (k := 1) rfl (i_inc (by omega)) (by decide) rfl (fun ls hl => ?_)
                        refine lv_goto (tgt := 97) hx hb dX12_round_270 (by decide) ?_
                        exact ih42 _ (by omega) (z37 + 1) z85 _ _ _ _ (by omega) (by omega) (by omega) rfl hI (fr.trans (fr.trans (fr.rf) hj39 rfl rfl) hj86 rfl rfl) hP hS (lv_sub hl [0, 2, 3, 4, 5, 6, 7, 8] rfl)
                      refine lv_icmp_lt (tgt := 130) hx hb dX12_round_124 (by decide) (fun c49 => ?_) (fun c49 => ?_)
                      · have c49 : z48 < 1000000 := (i_lt rz48 ⟨by decide, by decide⟩).mp c49
                        refine lv_iload hx hb dX12_round_130 (lv_at hl 2 rfl) ?_
                        refine lv_iload hx hb dX12_round_132 (lv_at hl 4 rfl) ?_
                        refine lv_iand hx hb dX12_round_134 ?_
                        refine x_abs (fun z51 hz51 => ?_)
                        refine lv_iload hx hb dX12_round_135 (lv_at hl 4 rfl) ?_
                        have J177_53 : ∀ (z59 : Int) (H : Heap) (locs : List Loc) (ls : Array Slot), (-2147483648 ≤ z59 ∧ z59 ≤ 2147483647) → va_P (dC, dI) vwCl (WM cI cJ cZ q A40) H → va_S AS s.heap H locs → lv_has ls 11 [(8, .int (iI z48)), (7, .int (iI z37)), (6, .int (iI z25)), (5, .int (iI z59)), (4, .int (iI z13)), (3, .int (iI z8)), (0, .ref (q 0)), (1, .int (iI x1)), (2, .int (iI x2))] → W p l e (headSpec ws_mc_X12_round ({ frames := 4, cells := 0, slots := 0, locals := 90 } : Room)).room s m [.ref (q 0), .int (iI x1), .int (iI x2)].toArray below meth c H locs 0 0 Q (F0 m 177 ls []) := by
                          intro z59 H locs ls f61 hP hS hl
                          refine lv_iconst (v := iI 0) hx hb dX12_round_177 (by decide +kernel) ?_
                          refine lv_istore (lv' := [(9, .int (iI 0)), (8, .int (iI z48)), (7, .int (iI z37)), (6, .int (iI z25)), (5, .int (iI z59)), (4, .int (iI z13)), (3, .int (iI z8)), (0, .ref (q 0)), (1, .int (iI x1)), (2, .int (iI x2))]) hx hb dX12_round_178 hl (by decide) rfl (fun ls hl => ?_)
                          have L180_65 : ∀ (n67 : Nat) (z62 : Int) (A64 : St) (H : Heap) (locs : List Loc) (ls : Array Slot), (0 ≤ z62) → (0 ≤ z62 ∧ z62 ≤ 2147483647) → ((8 - z62 + 1).toNat = n67) → IM A64 → fr [56] [] A40 A64 → va_P (dC, dI) vwCl (WM cI cJ cZ q A64) H → va_S AS s.heap H locs → lv_has ls 11 [(9, .int (iI z62)), (8, .int (iI z48)), (7, .int (iI z37)), (6, .int (iI z25)), (5, .int (iI z59)), (4, .int (iI z13)), (3, .int (iI z8)), (0, .ref (q 0)), (1, .int (iI x1)), (2, .int (iI x2))] → W p l e (headSpec ws_mc_X12_round ({ frames := 4, cells := 0, slots := 0, locals := 90 } : Room)).room s m [.ref (q 0), .int (iI x1), .int (iI x2)].toArray below meth c H locs 0 0 Q (F0 m 180 ls []) := by
                            intro n67
                            induction n67 using Nat.strongRecOn with
                            | ind n67 ih66 =>
                              intro z62 A64 H locs ls f68 f69 hn67 hI hj63 hP hS hl
                              refine lv_iload hx hb dX12_round_180 (lv_at hl 0 rfl) ?_
                              refine lv_bipush (v := iI 8) hx hb dX12_round_182 (by decide +kernel) ?_
                              refine lv_icmp_ge (tgt := 267) hx hb dX12_round_184 (by decide) (fun c70 => ?_) (fun c70 => ?_)
                              · have c70 : 8 ≤ z62 := (i_le ⟨by decide, by decide⟩ (rb f69 (by decide) (by decide))).mp c70
                                exact J267_50 z59 _ _ _ _ (by omega) hI (fr.trans (fr.rf) hj63 rfl rfl) hP hS (lv_sub hl [1, 2, 3, 4, 5, 6, 7, 8, 9] rfl)
                              · have c70 : ¬ 8 ≤ z62 := mt (i_le ⟨by decide, by decide⟩ (rb f69 (by decide) (by decide))).mpr c70
                                refine lv_bipush (v := iI 8) hx hb dX12_round_187 (by decide +kernel) ?_
                                refine lv_iload hx hb dX12_round_189 (lv_at hl 3 rfl) ?_
                                refine lv_iconst (v := iI 1) hx hb dX12_round_191 (by decide +kernel) ?_
                                refine lv_iload hx hb dX12_round_192 (lv_at hl 0 rfl) ?_
                                refine x_shl1 (M := 7) (t := 128) hx hb dX12_round_194 (by omega) (by decide) (by decide) (fun z71 hz71 => ?_)
                                refine lv_ior hx hb dX12_round_195 ?_
                                refine x_or 8 (by decide) (by omega) (by omega) (fun z72 hz72 => ?_)
                                refine x_mulv (v := 8 * z72) hx hb dX12_round_196 (by omega) ?_
                                refine lv_iload hx hb dX12_round_197 (lv_at hl 0 rfl) ?_
                                refine x_addv (v := 8 * z72 + z62) hx hb dX12_round_199 (by omega) ?_
                                refine lv_istore (lv' := [(10, .int (iI (8 * z72 + z62))), (9, .int (iI z62)), (8, .int (iI z48)), (7, .int (iI z37)), (6, .int (iI z25)), (5, .int (iI z59)), (4, .int (iI z13)), (3, .int (iI z8)), (0, .ref (q 0)), (1, .int (iI x1)), (2, .int (iI x2))]) hx hb dX12_round_200 hl (by decide) rfl (fun ls hl => ?_)
                                refine lv_iload hx hb dX12_round_202 (lv_at hl 4 rfl) ?_
                                refine lv_iload hx hb dX12_round_204 (lv_at hl 1 rfl) ?_
                                refine lv_ishr hx hb dX12_round_206 ?_
                                refine x_abs (fun z73 hz73 => ?_)
                                refine lv_iconst (v := iI 1) hx hb dX12_round_207 (by decide +kernel) ?_
                                refine lv_iand hx hb dX12_round_208 ?_
                                refine x_and (b := 1) (by omega) (fun z74 hz74 => ?_)
                                have J261_76 : ∀ (A84 : St) (H : Heap) (locs : List Loc) (ls : Array Slot), IM A84 → fr [56] [] A64 A84 → va_P (dC, dI) vwCl (WM cI cJ cZ q A84) H → va_S AS s.heap H locs → lv_has ls 11 [(10, .int (iI (8 * z72 + z62))), (9, .int (iI z62)), (8, .int (iI z48)), (7, .int (iI z37)), (6, .int (iI z25)), (5, .int (iI z59)), (4, .int (iI z13)), (3, .int (iI z8)), (0, .ref (q 0)), (1, .int (iI x1)), (2, .int (iI x2))] → W p l e (headSpec ws_mc_X12_round ({ frames := 4, cells := 0, slots := 0, locals := 90 } : Room)).room s m [.ref (q 0), .int (iI x1), .int (iI x2)].toArray below meth c H locs 0 0 Q (F0 m 261 ls []) := by
                                  intro A84 H locs ls hI hj83 hP hS hl
                                  refine lv_iinc (v := iI (z62 + 1)) (lv' := [(9, .int (iI (z62 + 1))), (10, .int (iI (8 * z72 + z62))), (8, .int (iI z48)), (7, .int (iI z37)), (6, .int (iI z25)), (5, .int (iI z59)), (4, .int (iI z13)), (3, .int (iI z8)), (0, .ref (q 0)), (1, .int (iI x1)), (2, .int (iI x2))]) hx hb dX12_round_261 hl (k := 1) rfl (i_inc (by omega)) (by decide) rfl (fun ls hl => ?_)
                                  refine lv_goto (tgt := 180) hx hb dX12_round_264 (by decide) ?_
                                  exact ih66 _ (by omega) (z62 + 1) _ _ _ _ (by omega) (by omega) rfl hI (fr.trans (fr.trans (fr.rf) hj63 rfl rfl) hj83 rfl rfl) hP hS (lv_sub hl [0, 2, 3, 4, 5, 6, 7, 8, 9, 10] rfl)
                                refine lv_if_ne (tgt := 261) hx hb dX12_round_209 (by decide) (fun c75 => ?_) (fun c75 => ?_)
                                · have c75 : ¬ z74 = 0 := mt (i_eq0 (by omega)).mpr c75
                                  exact J261_76 _ _ _ _ hI (fr.rf) hP hS (lv_sub hl [0, 1, 2, 3, 4, 5, 6, 7, 8, 9, 10] rfl)
                                · have c75 : z74 = 0 := (i_eq0 (by omega)).mp c75
                                  refine lv_iload hx hb dX12_round_212 (lv_at hl 2 rfl) ?_
                                  refine lv_aload_n hx hb dX12_round_214 rfl (lv_at hl 8 rfl) ?_
                                  refine va_get (D := (dC, dI)) (ci := 12) (v := .ref (q 55)) (C := RX12) (T := TX12) (N := 85) hx hb hts hiX12 hown hK hP 0 wm0 rfl 81 (by decide) (hts _ (List.mem_cons_of_mem _ (wl_in_8 _ (List.mem_of_getElem? (i := 29) rfl)))) (fun _ h9 => h9) rfl dX12_round_215 ?_
                                  refine lv_bipush (v := iI 8) hx hb dX12_round_218 (by decide +kernel) ?_
                                  refine lv_iload hx hb dX12_round_220 (lv_at hl 3 rfl) ?_
                                  refine x_mulv (v := 8 * z37) hx hb dX12_round_222 (by omega) ?_
                                  refine lv_iload hx hb dX12_round_223 (lv_at hl 1 rfl) ?_
                                  refine x_addv (v := 8 * z37 + z62) hx hb dX12_round_225 (by omega) ?_
                                  have a_A16_55 : A16 55 = A5 55 := (hj15.1 55 (by decide) rfl)
                                  have a_A24_55 : A24 55 = A5 55 := by rw [hA24]; exact a_A16_55
                                  have a_A28_55 : A28 55 = A5 55 := (hj27.1 55 (by decide) rfl).trans a_A24_55
                                  have a_A40_55 : A40 55 = A5 55 := (hj39.1 55 (by decide) rfl).trans a_A28_55
                                  have a_A64_55 : A64 55 = A5 55 := (hj63.1 55 (by decide) rfl).trans a_A40_55
                                  refine x_iald hx hb hK hP 55 1 wm55 rfl (by omega) (by decide) dX12_round_226 (fun z77 hz77 => ?_)
                                  have rz77 : (-2147483648 : Int) ≤ z77 ∧ z77 ≤ 2147483647 := by rw [hz77]; exact hI 55 _
                                  have hz77 : z77 = A5 55 (8 * z37 + z62).toNat := hz77.trans (congrFun a_A64_55 _)
                                  refine x_addv (v := z48 + z77) hx hb dX12_round_227 (by omega) ?_
                                  refine x_abs (fun z78 hz78 => ?_)
                                  refine lv_aload_n hx hb dX12_round_228 rfl (lv_at hl 8 rfl) ?_
                                  refine va_get (D := (dC, dI)) (ci := 12) (v := .ref (q 56)) (C := RX12) (T := TX12) (N := 85) hx hb hts hiX12 hown hK hP 0 wm0 rfl 82 (by decide) (hts _ (List.mem_cons_of_mem _ (wl_in_8 _ (List.mem_of_getElem? (i := 32) rfl)))) (fun _ h9 => h9) rfl dX12_round_229 ?_
                                  refine lv_iload hx hb dX12_round_232 (lv_at hl 0 rfl) ?_
                                  refine x_iald hx hb hK hP 56 1 wm56 rfl (by omega) (by decide) dX12_round_234 (fun z79 hz79 => ?_)
                                  have rz79 : (-2147483648 : Int) ≤ z79 ∧ z79 ≤ 2147483647 := by rw [hz79]; exact hI 56 _
                                  have hz79 : z79 = A64 56 (8 * z72 + z62).toNat := hz79
                                  refine lv_icmp_ge (tgt := 261) hx hb dX12_round_235 (by decide) (fun c80 => ?_) (fun c80 => ?_)
                                  · have c80 : z79 ≤ z78 := (i_le rz79 (by omega)).mp c80
                                    exact J261_76 _ _ _ _ hI (fr.rf) hP hS (lv_sub hl [0, 1, 2, 3, 4, 5, 6, 7, 8, 9, 10] rfl)
                                  · have c80 : ¬ z79 ≤ z78 := mt (i_le rz79 (by omega)).mpr c80
                                    refine lv_aload_n hx hb dX12_round_238 rfl (lv_at hl 8 rfl) ?_
                                    refine va_get (D := (dC, dI)) (ci := 12) (v := .ref (q 56)) (C := RX12) (T := TX12) (N := 85) hx hb hts hiX12 hown hK hP 0 wm0 rfl 82 (by decide) (hts _ (List.mem_cons_of_mem _ (wl_in_8 _ (List.mem_of_getElem? (i := 32) rfl)))) (fun _ h9 => h9) rfl dX12_round_239 ?_
                                    refine lv_iload hx hb dX12_round_242 (lv_at hl 0 rfl) ?_
                                    refine lv_iload hx hb dX12_round_244 (lv_at hl 2 rfl) ?_
                                    refine lv_aload_n hx hb dX12_round_246 rfl (lv_at hl 8 rfl) ?_
                                    refine va_get (D := (dC, dI)) (ci := 12) (v := .ref (q 55)) (C := RX12) (T := TX12) (N := 85) hx hb hts hiX12 hown hK hP 0 wm0 rfl 81 (by decide) (hts _ (List.mem_cons_of_mem _ (wl_in_8 _ (List.mem_of_getElem? (i := 29) rfl)))) (fun _ h9 => h9) rfl dX12_round_247 ?_
                                    refine lv_bipush (v := iI 8) hx hb dX12_round_250 (by decide +kernel) ?_
                                    refine lv_iload hx hb dX12_round_252 (lv_at hl 3 rfl) ?_
                                    refine x_mulv (v := 8 * z37) hx hb dX12_round_254 (by omega) ?_
                                    refine lv_iload hx hb dX12_round_255 (lv_at hl 1 rfl) ?_
                                    refine x_addv (v := 8 * z37 + z62) hx hb dX12_round_257 (by omega) ?_
                                    refine x_iald hx hb hK hP 55 1 wm55 rfl (by omega) (by decide) dX12_round_258 (fun z81 hz81 => ?_)
                                    have rz81 : (-2147483648 : Int) ≤ z81 ∧ z81 ≤ 2147483647 := by rw [hz81]; exact hI 55 _
                                    have hz81 : z81 = A5 55 (8 * z37 + z62).toNat := hz81.trans (congrFun a_A64_55 _)
                                    have ez81 : z81 = z77 := hz81.trans hz77.symm
                                    refine x_addv (v := z48 + z81) hx hb dX12_round_259 (by omega) ?_
                                    refine x_abs (fun z82 hz82 => ?_)
                                    refine x_iast hx hb hK hP hDD hS 56 1 wm56 rfl (by omega) (by decide) dX12_round_260 ws56 (fun H locs hP hS => ?_)
                                    have hI := hI.st (j := 56) (i := (8 * z72 + z62).toNat) (v := z82) (show (-2147483648 : Int) ≤ z82 ∧ z82 ≤ 2147483647 from (by omega))
                                    exact J261_76 _ _ _ _ hI (fr.st (fr.rf) (by decide) rfl) hP hS (lv_sub hl [0, 1, 2, 3, 4, 5, 6, 7, 8, 9, 10] rfl)
                          exact L180_65 _ 0 _ _ _ _ (by omega) (by omega) rfl hI (fr.rf) hP hS (lv_sub hl [0, 1, 2, 3, 4, 5, 6, 7, 8, 9] rfl)
                        refine lv_icmp_ne (tgt := 177) hx hb dX12_round_137 (by decide) (fun c52 => ?_) (fun c52 => ?_)
                        · have c52 : ¬ z51 = z13 := mt (i_eq (by omega) (by omega)).mpr c52
                          exact J177_53 z38 _ _ _ (by omega) hP hS (lv_sub hl [0, 1, 2, 3, 4, 5, 6, 7, 8] rfl)
                        · have c52 : z51 = z13 := (i_eq (by omega) (by omega)).mp c52
                          refine lv_iload hx hb dX12_round_140 (lv_at hl 0 rfl) ?_
                          refine lv_aload_n hx hb dX12_round_142 rfl (lv_at hl 6 rfl) ?_
                          refine va_get (D := (dC, dI)) (ci := 12) (v := .ref (q 55)) (C := RX12) (T := TX12) (N := 85) hx hb hts hiX12 hown hK hP 0 wm0 rfl 81 (by decide) (hts _ (List.mem_cons_of_mem _ (wl_in_8 _ (List.mem_of_getElem? (i := 29) rfl)))) (fun _ h9 => h9) rfl dX12_round_143 ?_
                          refine lv_bipush (v := iI 8) hx hb dX12_round_146 (by decide +kernel) ?_
                          refine lv_iload hx hb dX12_round_148 (lv_at hl 1 rfl) ?_
                          refine x_mulv (v := 8 * z37) hx hb dX12_round_150 (by omega) ?_
                          refine lv_iload_n hx hb dX12_round_151 rfl (lv_at hl 5 rfl) ?_
                          refine x_addv (v := 8 * z37 + z8) hx hb dX12_round_152 (by omega) ?_
                          have a_A16_55 : A16 55 = A5 55 := (hj15.1 55 (by decide) rfl)
                          have a_A24_55 : A24 55 = A5 55 := by rw [hA24]; exact a_A16_55
                          have a_A28_55 : A28 55 = A5 55 := (hj27.1 55 (by decide) rfl).trans a_A24_55
                          have a_A40_55 : A40 55 = A5 55 := (hj39.1 55 (by decide) rfl).trans a_A28_55
                          refine x_iald hx hb hK hP 55 1 wm55 rfl (by omega) (by decide) dX12_round_153 (fun z54 hz54 => ?_)
                          have rz54 : (-2147483648 : Int) ≤ z54 ∧ z54 ≤ 2147483647 := by rw [hz54]; exact hI 55 _
                          have hz54 : z54 = A5 55 (8 * z37 + z8).toNat := hz54.trans (congrFun a_A40_55 _)
                          refine x_addv (v := z48 + z54) hx hb dX12_round_154 (by omega) ?_
                          refine x_abs (fun z55 hz55 => ?_)
                          refine lv_iload hx hb dX12_round_155 (lv_at hl 3 rfl) ?_
                          refine lv_icmp_ge (tgt := 177) hx hb dX12_round_157 (by decide) (fun c56 => ?_) (fun c56 => ?_)
                          · have c56 : z38 ≤ z55 := (i_le f46 (by omega)).mp c56
                            exact J177_53 z38 _ _ _ (by omega) hP hS (lv_sub hl [0, 1, 2, 3, 4, 5, 6, 7, 8] rfl)
                          · have c56 : ¬ z38 ≤ z55 := mt (i_le f46 (by omega)).mpr c56
                            refine lv_iload hx hb dX12_round_160 (lv_at hl 0 rfl) ?_
                            refine lv_aload_n hx hb dX12_round_162 rfl (lv_at hl 6 rfl) ?_
                            refine va_get (D := (dC, dI)) (ci := 12) (v := .ref (q 55)) (C := RX12) (T := TX12) (N := 85) hx hb hts hiX12 hown hK hP 0 wm0 rfl 81 (by decide) (hts _ (List.mem_cons_of_mem _ (wl_in_8 _ (List.mem_of_getElem? (i := 29) rfl)))) (fun _ h9 => h9) rfl dX12_round_163 ?_
                            refine lv_bipush (v := iI 8) hx hb dX12_round_166 (by decide +kernel) ?_
                            refine lv_iload hx hb dX12_round_168 (lv_at hl 1 rfl) ?_
                            refine x_mulv (v := 8 * z37) hx hb dX12_round_170 (by omega) ?_
                            refine lv_iload_n hx hb dX12_round_171 rfl (lv_at hl 5 rfl) ?_
                            refine x_addv (v := 8 * z37 + z8) hx hb dX12_round_172 (by omega) ?_
                            refine x_iald hx hb hK hP 55 1 wm55 rfl (by omega) (by decide) dX12_round_173 (fun z57 hz57 => ?_)
                            have rz57 : (-2147483648 : Int) ≤ z57 ∧ z57 ≤ 2147483647 := by rw [hz57]; exact hI 55 _
                            have hz57 : z57 = A5 55 (8 * z37 + z8).toNat := hz57.trans (congrFun a_A40_55 _)
                            have ez57 : z57 = z54 := hz57.trans hz54.symm
                            refine x_addv (v := z48 + z57) hx hb dX12_round_174 (by omega) ?_
                            refine x_abs (fun z58 hz58 => ?_)
                            refine lv_istore (lv' := [(5, .int (iI z58)), (8, .int (iI z48)), (7, .int (iI z37)), (6, .int (iI z25)), (4, .int (iI z13)), (3, .int (iI z8)), (0, .ref (q 0)), (1, .int (iI x1)), (2, .int (iI x2))]) hx hb dX12_round_175 hl (by decide) rfl (fun ls hl => ?_)
                            exact J177_53 z58 _ _ _ (by omega) hP hS (lv_sub hl [1, 2, 3, 0, 4, 5, 6, 7, 8] rfl)
                      · have c49 : ¬ z48 < 1000000 := mt (i_lt rz48 ⟨by decide, by decide⟩).mpr c49
                        refine lv_goto (tgt := 267) hx hb dX12_round_127 (by decide) ?_
                        exact J267_50 z38 _ _ _ _ (by omega) hI (fr.rf) hP hS (lv_sub hl [0, 1, 2, 3, 4, 5, 6, 7, 8] rfl)
                exact L97_41 _ 0 z26 _ _ _ _ (by omega) (by omega) (by omega) rfl hI (fr.rf) hP hS (lv_sub hl [0, 1, 2, 3, 4, 5, 6, 7] rfl)
          exact L86_29 _ 0 1000000 _ _ _ _ (by omega) (by omega) (by omega) rfl hI (fr.rf) hP hS (lv_sub hl [0, 1, 2, 3, 4, 5, 6] rfl)
        · have c22 : ¬ 2048 ≤ z14 := mt (i_le ⟨by decide, by decide⟩ (rb f21 (by decide) (by decide))).mpr c22
          refine lv_aload_n hx hb dX12_round_48 rfl (lv_at hl 3 rfl) ?_
          refine va_get (D := (dC, dI)) (ci := 12) (v := .ref (q 56)) (C := RX12) (T := TX12) (N := 85) hx hb hts hiX12 hown hK hP 0 wm0 rfl 82 (by decide) (hts _ (List.mem_cons_of_mem _ (wl_in_8 _ (List.mem_of_getElem? (i := 32) rfl)))) (fun _ h9 => h9) rfl dX12_round_49 ?_
          refine lv_iload hx hb dX12_round_52 (lv_at hl 0 rfl) ?_
          refine lv_ldcw (v := 1000000) hx hb hown (hts _ (List.mem_cons_of_mem _ (wl_in_8 _ (List.mem_of_getElem? (i := 30) rfl)))) dX12_round_54 ?_
          refine tp_i (y := iI 1000000) (by decide +kernel) ?_
          refine x_iast hx hb hK hP hDD hS 56 1 wm56 rfl (by omega) (by decide) dX12_round_57 ws56 (fun H locs hP hS => ?_)
          have hI := hI.st (j := 56) (i := (z14).toNat) (v := 1000000) (show (-2147483648 : Int) ≤ 1000000 ∧ 1000000 ≤ 2147483647 from (by omega))
          refine lv_iinc (v := iI (z14 + 1)) (lv' := [(5, .int (iI (z14 + 1))), (4, .int (iI z13)), (3, .int (iI z8)), (0, .ref (q 0)), (1, .int (iI x1)), (2, .int (iI x2))]) hx hb dX12_round_58 hl (k := 0) rfl (i_inc (by omega)) (by decide) rfl (fun ls hl => ?_)
          refine lv_goto (tgt := 40) hx hb dX12_round_61 (by decide) ?_
          obtain ⟨A89, hA89⟩ : ∃ A89 : St, A89 = (stA A16 56 (z14).toNat 1000000) := ⟨_, rfl⟩
          rw [← hA89] at hP hI
          exact ih18 _ (by omega) (z14 + 1) _ _ _ _ (by omega) (by omega) rfl hI (fr_def hA89 (fr.st (fr.trans (fr.rf) hj15 rfl rfl) (by decide) rfl)) hP hS (lv_sub hl [0, 1, 2, 3, 4, 5] rfl)
    exact L40_17 _ 0 _ _ _ _ (by omega) (by omega) rfl hI (fr.rf) hP hS (lv_sub hl [0, 1, 2, 3, 4, 5] rfl)
  · have c4 : z1 = 0 := (i_eq0 (rb rz1 (by decide) (by decide))).mp c4
    clear hw3
    refine lv_iconst (v := iI (-1)) hx hb dX12_round_8 (by decide +kernel) ?_
    exact RET (-1) _ _ _ _ _ ⟨hI, fr.rf, by omega⟩ hP hS dX12_round_9
