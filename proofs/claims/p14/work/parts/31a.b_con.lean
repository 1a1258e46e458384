def ws_mc_X12_ahead : List Cond := .code yX12_ahead cX12_ahead 6 none :: WX
set_option maxHeartbeats 4000000 in
set_option maxRecDepth 100000 in
theorem mc_X12_ahead (l : Launch) (dC : Nat → ClassId) (dI : Nat → Nat → Nat) (cB cI cJ cZ cQ : ClassId) (q : Nat → Nat) (A : St) (hI : IM A) : XMv l yX12_ahead ws_mc_X12_ahead ({ frames := 1, cells := 0, slots := 0, locals := 22 } : Room) (dC, dI) (tyA cB cI cJ cZ cQ) (WM cI cJ cZ q) A [.ref (q 0)] (fun u => IM u ∧ fr [] [3, 4, 5, 6, 7, 8, 9] A u ∧ (True)) := by
  refine x_metv (cc := cX12_ahead) (maxL := 6) WM_adr (by decide +kernel) rfl (Nat.le_of_ble_eq_true rfl) (fun p e s m below meth c Q AS ls hx hb hml hown hts hK hDD hA0 hP hS hl RET => ?_)
  have hown : s.vm.findClass RX12 = some m.cls := hown
  have hl : lv_has ls 6 [(0, .ref (q 0))] := hl
  have hiX12 : ∀ w ∈ u_ws RX12 TX12 85, w ∈ ws_mc_X12_ahead := fun w h => List.mem_cons_of_mem _ (wx_lay w h)
  obtain ⟨H, hHe⟩ : ∃ H : Heap, H = s.heap := ⟨_, rfl⟩
  rw [← hHe] at hP
  have hS : va_S AS s.heap H [] := by rw [hHe]; exact hS
  suffices hgo : ∀ locs : List Loc, va_S AS s.heap H locs → W p l e (headSpec ws_mc_X12_ahead ({ frames := 1, cells := 0, slots := 0, locals := 22 } : Room)).room s m [.ref (q 0)].toArray below meth c H locs 0 0 Q (F0 m 0 ls []) by
    have := hgo [] hS
    rw [hHe] at this
    exact this
  clear hS hHe
  intro locs hS
  refine lv_aload_n hx hb dX12_ahead_0 rfl (lv_at hl 0 rfl) ?_
  refine va_get (D := (dC, dI)) (ci := 12) (v := .int (iI (A 0 5))) (C := RX12) (T := TX12) (N := 85) hx hb hts hiX12 hown hK hP 0 wm0 rfl 5 (by decide) (hts _ (List.mem_cons_of_mem _ (wl_in_0 _ (List.mem_of_getElem? (i := 21) rfl)))) (fun _ h9 => h9) rfl dX12_ahead_1 ?_
  have r_A_0_5 : (0 : Int) ≤ (A 0 5) ∧ (A 0 5) ≤ 1600 := hI 0 5
  refine lv_istore_n (lv' := [(1, .int (iI (A 0 5))), (0, .ref (q 0))]) hx hb dX12_ahead_4 rfl hl (by decide) rfl (fun ls hl => ?_)
  have L5_3 : ∀ (n5 : Nat) (z1 : Int) (H : Heap) (locs : List Loc) (ls : Array Slot), ((A 0 5) ≤ z1) → (0 ≤ z1 ∧ z1 ≤ 1600) → (((A 0 2) - z1 + 1).toNat = n5) → va_P (dC, dI) vwCl (WM cI cJ cZ q A) H → va_S AS s.heap H locs → lv_has ls 6 [(1, .int (iI z1)), (0, .ref (q 0))] → W p l e (headSpec ws_mc_X12_ahead ({ frames := 1, cells := 0, slots := 0, locals := 22 } : Room)).room s m [.ref (q 0)].toArray below meth c H locs 0 0 Q (F0 m 5 ls []) := by
    intro n5
    induction n5 using Nat.strongRecOn with
    | ind n5 ih4 =>
      intro z1 H locs ls f6 f7 hn5 hP hS hl
      refine lv_iload_n hx hb dX12_ahead_5 rfl (lv_at hl 0 rfl) ?_
      refine lv_aload_n hx hb dX12_ahead_6 rfl (lv_at hl 1 rfl) ?_
      refine va_get (D := (dC, dI)) (ci := 12) (v := .int (iI (A 0 2))) (C := RX12) (T := TX12) (N := 85) hx hb hts hiX12 hown hK hP 0 wm0 rfl 2 (by decide) (hts _ (List.mem_cons_of_mem _ (wl_in_0 _ (List.mem_of_getElem? (i := 22) rfl)))) (fun _ h9 => h9) rfl dX12_ahead_7 ?_
      have r_A_0_2 : (0 : Int) ≤ (A 0 2) ∧ (A 0 2) ≤ 1600 := hI 0 2
      have J41_9 : ∀ (H : Heap) (locs : List Loc) (ls : Array Slot), va_P (dC, dI) vwCl (WM cI cJ cZ q A) H → va_S AS s.heap H locs → lv_has ls 6 [(1, .int (iI z1)), (0, .ref (q 0))] → W p l e (headSpec ws_mc_X12_ahead ({ frames := 1, cells := 0, slots := 0, locals := 22 } : Room)).room s m [.ref (q 0)].toArray below meth c H locs 0 0 Q (F0 m 41 ls []) := by
        intro H locs ls hP hS hl
        refine lv_aload_n hx hb dX12_ahead_41 rfl (lv_at hl 1 rfl) ?_
        refine lv_iload_n hx hb dX12_ahead_42 rfl (lv_at hl 0 rfl) ?_
        refine x_put (D := (dC, dI)) (ci := 12) (v := .int (iI z1)) (ty := .int) (C := RX12) (T := TX12) (N := 85) hx hb hts hiX12 tyX12 tyX12_ok nmX12 hown hK hP hDD hS 0 wm0 rfl 4 (by decide) (hts _ (List.mem_cons_of_mem _ (wl_in_0 _ (List.mem_of_getElem? (i := 23) rfl)))) (fun _ h9 => h9) rfl (by decide +kernel) rfl rfl (Nat.le_of_ble_eq_true rfl) dX12_ahead_43 (wf4 (v := z1)) (fun H locs hP hS => ?_)
        have hI := hI.st (j := 0) (i := 4) (v := z1) (show (0 : Int) ≤ z1 ∧ z1 ≤ 1600 from (by omega))
        refine lv_aload_n hx hb dX12_ahead_46 rfl (lv_at hl 1 rfl) ?_
        refine lv_iload_n hx hb dX12_ahead_47 rfl (lv_at hl 0 rfl) ?_
        refine x_put (D := (dC, dI)) (ci := 12) (v := .int (iI z1)) (ty := .int) (C := RX12) (T := TX12) (N := 85) hx hb hts hiX12 tyX12 tyX12_ok nmX12 hown hK hP hDD hS 0 wm0 rfl 5 (by decide) (hts _ (List.mem_cons_of_mem _ (wl_in_0 _ (List.mem_of_getElem? (i := 21) rfl)))) (fun _ h9 => h9) rfl (by decide +kernel) rfl rfl (Nat.le_of_ble_eq_true rfl) dX12_ahead_48 (wf5 (v := z1)) (fun H locs hP hS => ?_)
        have hI := hI.st (j := 0) (i := 5) (v := z1) (show (0 : Int) ≤ z1 ∧ z1 ≤ 1600 from (by omega))
        refine lv_aload_n hx hb dX12_ahead_51 rfl (lv_at hl 1 rfl) ?_
        refine lv_iconst (v := iI 0) hx hb dX12_ahead_52 (by decide +kernel) ?_
        refine x_put (D := (dC, dI)) (ci := 12) (v := .int (iI 0)) (ty := .int) (C := RX12) (T := TX12) (N := 85) hx hb hts hiX12 tyX12 tyX12_ok nmX12 hown hK hP hDD hS 0 wm0 rfl 3 (by decide) (hts _ (List.mem_cons_of_mem _ (wl_in_0 _ (List.mem_of_getElem? (i := 24) rfl)))) (fun _ h9 => h9) rfl (by decide +kernel) rfl rfl (Nat.le_of_ble_eq_true rfl) dX12_ahead_53 (wf3 (v := 0)) (fun H locs hP hS => ?_)
        have hI := hI.st (j := 0) (i := 3) (v := 0) (show (0 : Int) ≤ 0 ∧ 0 ≤ 3 from (by omega))
        refine lv_iload_n hx hb dX12_ahead_56 rfl (lv_at hl 0 rfl) ?_
        refine lv_aload_n hx hb dX12_ahead_57 rfl (lv_at hl 1 rfl) ?_
        refine va_get (D := (dC, dI)) (ci := 12) (v := .int (iI (A 0 2))) (C := RX12) (T := TX12) (N := 85) hx hb hts hiX12 hown hK hP 0 wm0 rfl 2 (by decide) (hts _ (List.mem_cons_of_mem _ (wl_in_0 _ (List.mem_of_getElem? (i := 22) rfl)))) (fun _ h9 => h9) rfl dX12_ahead_58 ?_
        refine lv_icmp_lt (tgt := 65) hx hb dX12_ahead_61 (by decide) (fun c17 => ?_) (fun c17 => ?_)
        · have c17 : z1 < (A 0 2) := (i_lt (rb f7 (by decide) (by decide)) (rb r_A_0_2 (by decide) (by decide))).mp c17
          refine lv_aload_n hx hb dX12_ahead_65 rfl (lv_at hl 1 rfl) ?_
          refine va_get (D := (dC, dI)) (ci := 12) (v := .ref (q 1)) (C := RX12) (T := TX12) (N := 85) hx hb hts hiX12 hown hK hP 0 wm0 rfl 0 (by decide) (hts _ (List.mem_cons_of_mem _ (wl_in_0 _ (List.mem_of_getElem? (i := 2) rfl)))) (fun _ h9 => h9) rfl dX12_ahead_66 ?_
          refine lv_iload_n hx hb dX12_ahead_69 rfl (lv_at hl 0 rfl) ?_
          refine x_iald hx hb hK hP 1 1 wm1 rfl (by omega) (by decide) dX12_ahead_70 (fun z18 hz18 => ?_)
          have rz18 : (0 : Int) ≤ z18 ∧ z18 ≤ 255 := by rw [hz18]; exact hI 1 _
          have hz18 : z18 = A 1 (z1).toNat := hz18
          obtain ⟨A19, hA19⟩ : ∃ A19 : St, A19 = (stA (stA (stA A 0 4 z1) 0 5 z1) 0 3 0) := ⟨_, rfl⟩
          rw [← hA19] at hP hI
          refine x_callSi (As := [.int (iI z18)]) (rest := []) ⟨hx, hb, hml, hown, hts⟩ (mc_X12_isLetter l dC dI cB cI cJ cZ cQ q _ z18 hI (rb rz18 (by decide) (by decide))) (va_cwS 1 hts (goodS (wl_in_0 _ (List.mem_of_getElem? (i := 27) rfl)) (wl_in_0 _ (List.mem_of_getElem? (i := 28) rfl)) (wl_in_0 _ (List.mem_of_getElem? (i := 8) rfl)) (wl_in_0 _ (List.mem_of_getElem? (i := 18) rfl))) rfl rfl rfl (by decide +kernel) ⟨Nat.le_of_ble_eq_true rfl, Nat.le_of_ble_eq_true rfl⟩) hK hDD hA0 hP hS rfl hl.1 (Nat.le_of_ble_eq_true rfl) dX12_ahead_71 (fun z20 A21 H locs hw22 hP hS => ?_)
          obtain ⟨rfl, hw22⟩ := hw22
          have hw22 := hw22.2
          have rz20 : 0 ≤ z20 ∧ z20 ≤ 1 := hw22.1
          refine lv_istore_n (lv' := [(2, .int (iI z20)), (1, .int (iI z1)), (0, .ref (q 0))]) hx hb dX12_ahead_74 rfl hl (by decide) rfl (fun ls hl => ?_)
          refine lv_aload_n hx hb dX12_ahead_75 rfl (lv_at hl 2 rfl) ?_
          refine va_get (D := (dC, dI)) (ci := 12) (v := .ref (q 1)) (C := RX12) (T := TX12) (N := 85) hx hb hts hiX12 hown hK hP 0 wm0 rfl 0 (by decide) (hts _ (List.mem_cons_of_mem _ (wl_in_0 _ (List.mem_of_getElem? (i := 2) rfl)))) (fun _ h9 => h9) rfl dX12_ahead_76 ?_
          refine lv_iload_n hx hb dX12_ahead_79 rfl (lv_at hl 1 rfl) ?_
          have a_A19_1 : A19 1 = A 1 := by rw [hA19]; exact rfl
          refine x_iald hx hb hK hP 1 1 wm1 rfl (by omega) (by decide) dX12_ahead_80 (fun z23 hz23 => ?_)
          have rz23 : (0 : Int) ≤ z23 ∧ z23 ≤ 255 := by rw [hz23]; exact hI 1 _
          have hz23 : z23 = A 1 (z1).toNat := hz23.trans (congrFun a_A19_1 _)
          have ez23 : z23 = z18 := hz23.trans hz18.symm
          refine x_callSi (As := [.int (iI z23)]) (rest := []) ⟨hx, hb, hml, hown, hts⟩ (mc_X12_isDigit l dC dI cB cI cJ cZ cQ q _ z23 hI (rb rz23 (by decide) (by decide))) (va_cwS 1 hts (goodS (wl_in_0 _ (List.mem_of_getElem? (i := 29) rfl)) (wl_in_0 _ (List.mem_of_getElem? (i := 30) rfl)) (wl_in_0 _ (List.mem_of_getElem? (i := 8) rfl)) (wl_in_0 _ (List.mem_of_getElem? (i := 19) rfl))) rfl rfl rfl (by decide +kernel) ⟨Nat.le_of_ble_eq_true rfl, Nat.le_of_ble_eq_true rfl⟩) hK hDD hA0 hP hS rfl hl.1 (Nat.le_of_ble_eq_true rfl) dX12_ahead_81 (fun z24 A25 H locs hw26 hP hS => ?_)
          obtain ⟨rfl, hw26⟩ := hw26
          have hw26 := hw26.2
          have rz24 : 0 ≤ z24 ∧ z24 ≤ 1 := hw26.1
          refine lv_istore_n (lv' := [(3, .int (iI z24)), (2, .int (iI z20)), (1, .int (iI z1)), (0, .ref (q 0))]) hx hb dX12_ahead_84 rfl hl (by decide) rfl (fun ls hl => ?_)
          refine lv_iload_n hx hb dX12_ahead_85 rfl (lv_at hl 1 rfl) ?_
          have J131_29 : ∀ (A49 : St) (H : Heap) (locs : List Loc) (ls : Array Slot), IM A49 → fr [] [8, 9] A19 A49 → va_P (dC, dI) vwCl (WM cI cJ cZ q A49) H → va_S AS s.heap H locs → lv_has ls 6 [(3, .int (iI z24)), (2, .int (iI z20)), (1, .int (iI z1)), (0, .ref (q 0))] → W p l e (headSpec ws_mc_X12_ahead ({ frames := 1, cells := 0, slots := 0, locals := 22 } : Room)).room s m [.ref (q 0)].toArray below meth c H locs 0 0 Q (F0 m 131 ls []) := by
            intro A49 H locs ls hI hj48 hP hS hl
            clear hw22 hw26
            refine lv_aload_n hx hb dX12_ahead_131 rfl (lv_at hl 3 rfl) ?_
            refine lv_iconst (v := iI 0) hx hb dX12_ahead_132 (by decide +kernel) ?_
            refine x_put (D := (dC, dI)) (ci := 12) (v := .int (iI 0)) (ty := .int) (C := RX12) (T := TX12) (N := 85) hx hb hts hiX12 tyX12 tyX12_ok nmX12 hown hK hP hDD hS 0 wm0 rfl 6 (by decide) (hts _ (List.mem_cons_of_mem _ (wl_in_0 _ (List.mem_of_getElem? (i := 25) rfl)))) (fun _ h9 => h9) rfl (by decide +kernel) rfl rfl (Nat.le_of_ble_eq_true rfl) dX12_ahead_133 (wf6 (v := 0)) (fun H locs hP hS => ?_)
            have hI := hI.st (j := 0) (i := 6) (v := 0) (show (-2147483648 : Int) ≤ 0 ∧ 0 ≤ 2147483647 from (by omega))
            refine lv_aload_n hx hb dX12_ahead_136 rfl (lv_at hl 3 rfl) ?_
            refine lv_lconst (v := jI 0) hx hb dX12_ahead_137 (by decide +kernel) ?_
            refine x_put (D := (dC, dI)) (ci := 12) (v := .long (jI 0)) (ty := .long) (C := RX12) (T := TX12) (N := 85) hx hb hts hiX12 tyX12 tyX12_ok nmX12 hown hK hP hDD hS 0 wm0 rfl 7 (by decide) (hts _ (List.mem_cons_of_mem _ (wl_in_0 _ (List.mem_of_getElem? (i := 26) rfl)))) (fun _ h9 => h9) rfl (by decide +kernel) rfl rfl (Nat.le_of_ble_eq_true rfl) dX12_ahead_138 (wf7 (v := 0)) (fun H locs hP hS => ?_)
            have hI := hI.st (j := 0) (i := 7) (v := 0) (show (-9223372036854775808 : Int) ≤ 0 ∧ 0 ≤ 9223372036854775807 from (by omega))
            refine lv_aload_n hx hb dX12_ahead_141 rfl (lv_at hl 3 rfl) ?_
            refine lv_iconst (v := iI 3) hx hb dX12_ahead_142 (by decide +kernel) ?_
            refine x_put (D := (dC, dI)) (ci := 12) (v := .int (iI 3)) (ty := .int) (C := RX12) (T := TX12) (N := 85) hx hb hts hiX12 tyX12 tyX12_ok nmX12 hown hK hP hDD hS 0 wm0 rfl 3 (by decide) (hts _ (List.mem_cons_of_mem _ (wl_in_0 _ (List.mem_of_getElem? (i := 24) rfl)))) (fun _ h9 => h9) rfl (by decide +kernel) rfl rfl (Nat.le_of_ble_eq_true rfl) dX12_ahead_143 (wf3 (v := 3)) (fun H locs hP hS => ?_)
            have hI := hI.st (j := 0) (i := 3) (v := 3) (show (0 : Int) ≤ 3 ∧ 3 ≤ 3 from (by omega))
            refine lv_aload_n hx hb dX12_ahead_146 rfl (lv_at hl 3 rfl) ?_
            refine lv_iload_n hx hb dX12_ahead_147 rfl (lv_at hl 2 rfl) ?_
            refine lv_iconst (v := iI 1) hx hb dX12_ahead_148 (by decide +kernel) ?_
            refine x_addv (v := z1 + 1) hx hb dX12_ahead_149 (by omega) ?_
            refine x_put (D := (dC, dI)) (ci := 12) (v := .int (iI (z1 + 1))) (ty := .int) (C := RX12) (T := TX12) (N := 85) hx hb hts hiX12 tyX12 tyX12_ok nmX12 hown hK hP hDD hS 0 wm0 rfl 5 (by decide) (hts _ (List.mem_cons_of_mem _ (wl_in_0 _ (List.mem_of_getElem? (i := 21) rfl)))) (fun _ h9 => h9) rfl (by decide +kernel) rfl rfl (Nat.le_of_ble_eq_true rfl) dX12_ahead_150 (wf5 (v := z1 + 1)) (fun H locs hP hS => ?_)
            have hI := hI.st (j := 0) (i := 5) (v := z1 + 1) (show (0 : Int) ≤ z1 + 1 ∧ z1 + 1 ≤ 1600 from (by omega))
            refine lv_iload_n hx hb dX12_ahead_153 rfl (lv_at hl 1 rfl) ?_
            obtain ⟨A50, hA50⟩ : ∃ A50 : St, A50 = (stA (stA (stA (stA A49 0 6 0) 0 7 0) 0 3 3) 0 5 (z1 + 1)) := ⟨_, rfl⟩
            rw [← hA50] at hP hI
            have J172_52 : ∀ (H : Heap) (locs : List Loc) (ls : Array Slot), va_P (dC, dI) vwCl (WM cI cJ cZ q A50) H → va_S AS s.heap H locs → lv_has ls 6 [(3, .int (iI z24)), (2, .int (iI z20)), (1, .int (iI z1)), (0, .ref (q 0))] → W p l e (headSpec ws_mc_X12_ahead ({ frames := 1, cells := 0, slots := 0, locals := 22 } : Room)).room s m [.ref (q 0)].toArray below meth c H locs 0 0 Q (F0 m 172 ls []) := by
              intro H locs ls hP hS hl
              refine lv_aload_n hx hb dX12_ahead_172 rfl (lv_at hl 3 rfl) ?_
              refine lv_iload_n hx hb dX12_ahead_173 rfl (lv_at hl 1 rfl) ?_
              have J182_57 : ∀ (z58 : Int) (H : Heap) (locs : List Loc) (ls : Array Slot), (1 ≤ z58 ∧ z58 ≤ 2) → va_P (dC, dI) vwCl (WM cI cJ cZ q A50) H → va_S AS s.heap H locs → lv_has ls 6 [(3, .int (iI z24)), (2, .int (iI z20)), (1, .int (iI z1)), (0, .ref (q 0))] → W p l e (headSpec ws_mc_X12_ahead ({ frames := 1, cells := 0, slots := 0, locals := 22 } : Room)).room s m [.ref (q 0)].toArray below meth c H locs 0 0 Q (F0 m 182 ls [.int (iI z58), .ref (q 0)]) := by
                intro z58 H locs ls f60 hP hS hl
                refine x_put (D := (dC, dI)) (ci := 12) (v := .int (iI z58)) (ty := .int) (C := RX12) (T := TX12) (N := 85) hx hb hts hiX12 tyX12 tyX12_ok nmX12 hown hK hP hDD hS 0 wm0 rfl 3 (by decide) (hts _ (List.mem_cons_of_mem _ (wl_in_0 _ (List.mem_of_getElem? (i := 24) rfl)))) (fun _ h9 => h9) rfl (by decide +kernel) rfl rfl (Nat.le_of_ble_eq_true rfl) dX12_ahead_182 (wf3 (v := z58)) (fun H locs hP hS => ?_)
                have hI := hI.st (j := 0) (i := 3) (v := z58) (show (0 : Int) ≤ z58 ∧ z58 ≤ 3 from (by omega))
                refine lv_iload_n hx hb dX12_ahead_185 rfl (lv_at hl 1 rfl) ?_
                obtain ⟨A61, hA61⟩ : ∃ A61 : St, A61 = (stA A50 0 3 z58) := ⟨_, rfl⟩
                rw [← hA61] at hP hI
                have J195_63 : ∀ (z64 : Int) (H : Heap) (locs : List Loc) (ls : Array Slot), (4 ≤ z64 ∧ z64 ≤ 6) → va_P (dC, dI) vwCl (WM cI cJ cZ q A61) H → va_S AS s.heap H locs → lv_has ls 6 [(3, .int (iI z24)), (2, .int (iI z20)), (1, .int (iI z1)), (0, .ref (q 0))] → W p l e (headSpec ws_mc_X12_ahead ({ frames := 1, cells := 0, slots := 0, locals := 22 } : Room)).room s m [.ref (q 0)].toArray below meth c H locs 0 0 Q (F0 m 195 ls [.int (iI z64)]) := by
                  intro z64 H locs ls f66 hP hS hl
                  refine lv_istore (lv' := [(4, .int (iI z64)), (3, .int (iI z24)), (2, .int (iI z20)), (1, .int (iI z1)), (0, .ref (q 0))]) hx hb dX12_ahead_195 hl (by decide) rfl (fun ls hl => ?_)
                  refine lv_iconst (v := iI 0) hx hb dX12_ahead_197 (by decide +kernel) ?_
                  refine lv_istore (lv' := [(5, .int (iI 0)), (4, .int (iI z64)), (3, .int (iI z24)), (2, .int (iI z20)), (1, .int (iI z1)), (0, .ref (q 0))]) hx hb dX12_ahead_198 hl (by decide) rfl (fun ls hl => ?_)
                  have L200_71 : ∀ (n73 : Nat) (z67 z68 : Int) (A70 : St) (H : Heap) (locs : List Loc) (ls : Array Slot), (0 ≤ z67) → (0 ≤ z67 ∧ z67 ≤ 1600) → (z1 ≤ z68) → (0 ≤ z68 ∧ z68 ≤ 1600) → (z67 ≤ z68) → (((A 0 2) - z68 + 1).toNat = n73) → IM A70 → fr [] [6, 7, 8, 9] A61 A70 → va_P (dC, dI) vwCl (WM cI cJ cZ q A70) H → va_S AS s.heap H locs → lv_has ls 6 [(5, .int (iI z67)), (4, .int (iI z64)), (3, .int (iI z24)), (2, .int (iI z20)), (1, .int (iI z68)), (0, .ref (q 0))] → W p l e (headSpec ws_mc_X12_ahead ({ frames := 1, cells := 0, slots := 0, locals := 22 } : Room)).room s m [.ref (q 0)].toArray below meth c H locs 0 0 Q (F0 m 200 ls []) := by
                    intro n73
                    induction n73 using Nat.strongRecOn with
                    | ind n73 ih72 =>
                      intro z67 z68 A70 H locs ls f74 f75 f76 f77 f78 hn73 hI hj69 hP hS hl
                      refine lv_iload_n hx hb dX12_ahead_200 rfl (lv_at hl 4 rfl) ?_
                      refine lv_aload_n hx hb dX12_ahead_201 rfl (lv_at hl 5 rfl) ?_
                      have e_A19_2 : A19 0 2 = (A 0 2) := by rw [hA19]; exact rfl
                      have e_A49_2 : A49 0 2 = (A 0 2) := (hj48.2 2 rfl).trans e_A19_2
                      have e_A50_2 : A50 0 2 = (A 0 2) := by rw [hA50]; exact e_A49_2
                      have e_A61_2 : A61 0 2 = (A 0 2) := by rw [hA61]; exact e_A50_2
                      have e_A70_2 : A70 0 2 = (A 0 2) := (hj69.2 2 rfl).trans e_A61_2
                      refine va_get (D := (dC, dI)) (ci := 12) (v := .int (iI (A70 0 2))) (C := RX12) (T := TX12) (N := 85) hx hb hts hiX12 hown hK hP 0 wm0 rfl 2 (by decide) (hts _ (List.mem_cons_of_mem _ (wl_in_0 _ (List.mem_of_getElem? (i := 22) rfl)))) (fun _ h9 => h9) rfl dX12_ahead_202 ?_
                      refine tp_i (y := iI (A 0 2)) (congrArg iI e_A70_2) ?_
                      refine lv_icmp_ge (tgt := 323) hx hb dX12_ahead_205 (by decide) (fun c79 => ?_) (fun c79 => ?_)
                      · have c79 : (A 0 2) ≤ z68 := (i_le (rb r_A_0_2 (by decide) (by decide)) (rb f77 (by decide) (by decide))).mp c79
                        refine lv_aload_n hx hb dX12_ahead_323 rfl (lv_at hl 5 rfl) ?_
                        refine lv_iload_n hx hb dX12_ahead_324 rfl (lv_at hl 4 rfl) ?_
                        refine x_put (D := (dC, dI)) (ci := 12) (v := .int (iI z68)) (ty := .int) (C := RX12) (T := TX12) (N := 85) hx hb hts hiX12 tyX12 tyX12_ok nmX12 hown hK hP hDD hS 0 wm0 rfl 5 (by decide) (hts _ (List.mem_cons_of_mem _ (wl_in_0 _ (List.mem_of_getElem? (i := 21) rfl)))) (fun _ h9 => h9) rfl (by decide +kernel) rfl rfl (Nat.le_of_ble_eq_true rfl) dX12_ahead_325 (wf5 (v := z68)) (fun H locs hP hS => ?_)
                        have hI := hI.st (j := 0) (i := 5) (v := z68) (show (0 : Int) ≤ z68 ∧ z68 ≤ 1600 from (by omega))
                        exact RET _ _ _ _ _ ⟨hI, fr.sf (fr.trans (fr_def hA61 (fr.sf (fr_def hA50 (fr.sf (fr.sf (fr.sf (fr.sf (fr.trans (fr_def hA19 (fr.sf (fr.sf (fr.sf (fr.rf) rfl) rfl) rfl)) hj48 rfl rfl) rfl) rfl) rfl) rfl)) rfl)) hj69 rfl rfl) rfl, trivial⟩ hP hS dX12_ahead_328
                      · have c79 : ¬ (A 0 2) ≤ z68 := mt (i_le (rb r_A_0_2 (by decide) (by decide)) (rb f77 (by decide) (by decide))).mpr c79
                        refine lv_iload_n hx hb dX12_ahead_208 rfl (lv_at hl 3 rfl) ?_
                        have J239_81 : ∀ (H : Heap) (locs : List Loc) (ls : Array Slot), va_P (dC, dI) vwCl (WM cI cJ cZ q A70) H → va_S AS s.heap H locs → lv_has ls 6 [(5, .int (iI z67)), (4, .int (iI z64)), (3, .int (iI z24)), (2, .int (iI z20)), (1, .int (iI z68)), (0, .ref (q 0))] → W p l e (headSpec ws_mc_X12_ahead ({ frames := 1, cells := 0, slots := 0, locals := 22 } : Room)).room s m [.ref (q 0)].toArray below meth c H locs 0 0 Q (F0 m 239 ls []) := by
                          intro H locs ls hP hS hl
                          refine lv_iload hx hb dX12_ahead_239 (lv_at hl 0 rfl) ?_
                          refine lv_iload hx hb dX12_ahead_241 (lv_at hl 1 rfl) ?_
                          have J252_94 : ∀ (A99 : St) (H : Heap) (locs : List Loc) (ls : Array Slot), IM A99 → fr [] [8, 9] A70 A99 → va_P (dC, dI) vwCl (WM cI cJ cZ q A99) H → va_S AS s.heap H locs → lv_has ls 6 [(5, .int (iI z67)), (4, .int (iI z64)), (3, .int (iI z24)), (2, .int (iI z20)), (1, .int (iI z68)), (0, .ref (q 0))] → W p l e (headSpec ws_mc_X12_ahead ({ frames := 1, cells := 0, slots := 0, locals := 22 } : Room)).room s m [.ref (q 0)].toArray below meth c H locs 0 0 Q (F0 m 252 ls []) := by
                            intro A99 H locs ls hI hj98 hP hS hl
                            refine lv_iload hx hb dX12_ahead_252 (lv_at hl 0 rfl) ?_
                            refine lv_iload hx hb dX12_ahead_254 (lv_at hl 1 rfl) ?_
                            have J282_101 : ∀ (A108 : St) (H : Heap) (locs : List Loc) (ls : Array Slot), IM A108 → fr [] [7] A99 A108 → va_P (dC, dI) vwCl (WM cI cJ cZ q A108) H → va_S AS s.heap H locs → lv_has ls 6 [(5, .int (iI z67)), (4, .int (iI z64)), (3, .int (iI z24)), (2, .int (iI z20)), (1, .int (iI z68)), (0, .ref (q 0))] → W p l e (headSpec ws_mc_X12_ahead ({ frames := 1, cells := 0, slots := 0, locals := 22 } : Room)).room s m [.ref (q 0)].toArray below meth c H locs 0 0 Q (F0 m 282 ls []) := by
                              intro A108 H locs ls hI hj107 hP hS hl
                              refine lv_iload hx hb dX12_ahead_282 (lv_at hl 0 rfl) ?_
                              refine lv_iload hx hb dX12_ahead_284 (lv_at hl 1 rfl) ?_
                              have J314_110 : ∀ (A117 : St) (H : Heap) (locs : List Loc) (ls : Array Slot), IM A117 → fr [] [6] A108 A117 → va_P (dC, dI) vwCl (WM cI cJ cZ q A117) H → va_S AS s.heap H locs → lv_has ls 6 [(5, .int (iI z67)), (4, .int (iI z64)), (3, .int (iI z24)), (2, .int (iI z20)), (1, .int (iI z68)), (0, .ref (q 0))] → W p l e (headSpec ws_mc_X12_ahead ({ frames := 1, cells := 0, slots := 0, locals := 22 } : Room)).room s m [.ref (q 0)].toArray below meth c H locs 0 0 Q (F0 m 314 ls []) := by
                                intro A117 H locs ls hI hj116 hP hS hl
                                refine lv_iinc (v := iI (z67 + 1)) (lv' := [(5, .int (iI (z67 + 1))), (4, .int (iI z64)), (3, .int (iI z24)), (2, .int (iI z20)), (1, .int (iI z68)), (0, .ref (q 0))]) hx hb dX12_ahead_314 hl (k := 0) rfl (i_inc (by omega)) (by decide) rfl (fun ls hl => ?_)
                                refine lv_iinc (v := iI (z68 + 1)) (lv' := [(1, .int (iI (z68 + 1))), (5, .int (iI (z67 + 1))), (4, .int (iI z64)), (3, .int (iI z24)), (2, .int (iI z20)), (0, .ref (q 0))]) hx hb dX12_ahead_317 hl (k := 4) rfl (i_inc (by omega)) (by decide) rfl (fun ls hl => ?_)
                                refine lv_goto (tgt := 200) hx hb dX12_ahead_320 (by decide) ?_
                                exact ih72 _ (by omega) (z67 + 1) (z68 + 1) _ _ _ _ (by omega) (by omega) (by omega) (by omega) (by omega) rfl hI (fr.trans (fr.trans (fr.trans (fr.trans (fr.rf) hj69 rfl rfl) hj98 rfl rfl) hj107 rfl rfl) hj116 rfl rfl) hP hS (lv_sub hl [1, 2, 3, 4, 0, 5] rfl)
                              refine lv_icmp_ge (tgt := 314) hx hb dX12_ahead_286 (by decide) (fun c109 => ?_) (fun c109 => ?_)
                              · have c109 : z64 ≤ z67 := (i_le (rb f66 (by decide) (by decide)) (rb f75 (by decide) (by decide))).mp c109
                                exact J314_110 _ _ _ _ hI (fr.rf) hP hS (lv_sub hl [0, 1, 2, 3, 4, 5] rfl)
                              · have c109 : ¬ z64 ≤ z67 := mt (i_le (rb f66 (by decide) (by decide)) (rb f75 (by decide) (by decide))).mpr c109
                                refine lv_iload_n hx hb dX12_ahead_289 rfl (lv_at hl 2 rfl) ?_
                                refine lv_if_eq (tgt := 314) hx hb dX12_ahead_290 (by decide) (fun c111 => ?_) (fun c111 => ?_)
                                · have c111 : z24 = 0 := (i_eq0 (rb rz24 (by decide) (by decide))).mp c111
                                  exact J314_110 _ _ _ _ hI (fr.rf) hP hS (lv_sub hl [0, 1, 2, 3, 4, 5] rfl)
                                · have c111 : ¬ z24 = 0 := mt (i_eq0 (rb rz24 (by decide) (by decide))).mpr c111
                                  refine lv_aload_n hx hb dX12_ahead_293 rfl (lv_at hl 5 rfl) ?_
                                  refine lv_bipush (v := iI 10) hx hb dX12_ahead_294 (by decide +kernel) ?_
                                  refine lv_aload_n hx hb dX12_ahead_296 rfl (lv_at hl 5 rfl) ?_
                                  have e_A99_6 : A99 0 6 = (A70 0 6) := (hj98.2 6 rfl)
                                  have e_A108_6 : A108 0 6 = (A70 0 6) := (hj107.2 6 rfl).trans e_A99_6
                                  refine va_get (D := (dC, dI)) (ci := 12) (v := .int (iI (A108 0 6))) (C := RX12) (T := TX12) (N := 85) hx hb hts hiX12 hown hK hP 0 wm0 rfl 6 (by decide) (hts _ (List.mem_cons_of_mem _ (wl_in_0 _ (List.mem_of_getElem? (i := 25) rfl)))) (fun _ h9 => h9) rfl dX12_ahead_297 ?_
                                  refine tp_i (y := iI (A70 0 6)) (congrArg iI e_A108_6) ?_
                                  have r_A70_0_6 : (-2147483648 : Int) ≤ (A70 0 6) ∧ (A70 0 6) ≤ 2147483647 := by rw [← e_A108_6]; exact hI 0 6
                                  refine x_mulv (v := 10 * (A70 0 6)) hx hb dX12_ahead_300 (by omega) ?_
                                  refine x_abs (fun z112 hz112 => ?_)
                                  refine lv_aload_n hx hb dX12_ahead_301 rfl (lv_at hl 5 rfl) ?_
                                  refine va_get (D := (dC, dI)) (ci := 12) (v := .ref (q 1)) (C := RX12) (T := TX12) (N := 85) hx hb hts hiX12 hown hK hP 0 wm0 rfl 0 (by decide) (hts _ (List.mem_cons_of_mem _ (wl_in_0 _ (List.mem_of_getElem? (i := 2) rfl)))) (fun _ h9 => h9) rfl dX12_ahead_302 ?_
                                  refine lv_iload_n hx hb dX12_ahead_305 rfl (lv_at hl 4 rfl) ?_
                                  have a_A49_1 : A49 1 = A 1 := (hj48.1 1 (by decide) rfl).trans a_A19_1
                                  have a_A50_1 : A50 1 = A 1 := by rw [hA50]; exact a_A49_1
                                  have a_A61_1 : A61 1 = A 1 := by rw [hA61]; exact a_A50_1
                                  have a_A70_1 : A70 1 = A 1 := (hj69.1 1 (by decide) rfl).trans a_A61_1
                                  have a_A99_1 : A99 1 = A 1 := (hj98.1 1 (by decide) rfl).trans a_A70_1
                                  have a_A108_1 : A108 1 = A 1 := (hj107.1 1 (by decide) rfl).trans a_A99_1
                                  refine x_iald hx hb hK hP 1 1 wm1 rfl (by omega) (by decide) dX12_ahead_306 (fun z113 hz113 => ?_)
                                  have rz113 : (0 : Int) ≤ z113 ∧ z113 ≤ 255 := by rw [hz113]; exact hI 1 _
                                  have hz113 : z113 = A 1 (z68).toNat := hz113.trans (congrFun a_A108_1 _)
                                  refine x_addv (v := z112 + z113) hx hb dX12_ahead_307 (by omega) ?_
                                  refine x_abs (fun z114 hz114 => ?_)
                                  refine lv_bipush (v := iI 48) hx hb dX12_ahead_308 (by decide +kernel) ?_
                                  refine x_subv (v := z114 - 48) hx hb dX12_ahead_310 (by omega) ?_
                                  refine x_abs (fun z115 hz115 => ?_)
                                  refine x_put (D := (dC, dI)) (ci := 12) (v := .int (iI z115)) (ty := .int) (C := RX12) (T := TX12) (N := 85) hx hb hts hiX12 tyX12 tyX12_ok nmX12 hown hK hP hDD hS 0 wm0 rfl 6 (by decide) (hts _ (List.mem_cons_of_mem _ (wl_in_0 _ (List.mem_of_getElem? (i := 25) rfl)))) (fun _ h9 => h9) rfl (by decide +kernel) rfl rfl (Nat.le_of_ble_eq_true rfl) dX12_ahead_311 (wf6 (v := z115)) (fun H locs hP hS => ?_)
                                  have hI := hI.st (j := 0) (i := 6) (v := z115) (show (-2147483648 : Int) ≤ z115 ∧ z115 ≤ 2147483647 from (by omega))
                                  exact J314_110 _ _ _ _ hI (fr.sf (fr.rf) rfl) hP hS (lv_sub hl [0, 1, 2, 3, 4, 5] rfl)
                            refine lv_icmp_ge (tgt := 282) hx hb dX12_ahead_256 (by decide) (fun c100 => ?_) (fun c100 => ?_)
                            · have c100 : z64 ≤ z67 := (i_le (rb f66 (by decide) (by decide)) (rb f75 (by decide) (by decide))).mp c100
                              exact J282_101 _ _ _ _ hI (fr.rf) hP hS (lv_sub hl [0, 1, 2, 3, 4, 5] rfl)
                            · have c100 : ¬ z64 ≤ z67 := mt (i_le (rb f66 (by decide) (by decide)) (rb f75 (by decide) (by decide))).mpr c100
                              refine lv_iload_n hx hb dX12_ahead_259 rfl (lv_at hl 3 rfl) ?_
                              refine lv_if_eq (tgt := 282) hx hb dX12_ahead_260 (by decide) (fun c102 => ?_) (fun c102 => ?_)
                              · have c102 : z20 = 0 := (i_eq0 (rb rz20 (by decide) (by decide))).mp c102
                                exact J282_101 _ _ _ _ hI (fr.rf) hP hS (lv_sub hl [0, 1, 2, 3, 4, 5] rfl)
                              · have c102 : ¬ z20 = 0 := mt (i_eq0 (rb rz20 (by decide) (by decide))).mpr c102
                                refine lv_aload_n hx hb dX12_ahead_263 rfl (lv_at hl 5 rfl) ?_
                                refine lv_aload_n hx hb dX12_ahead_264 rfl (lv_at hl 5 rfl) ?_
                                have e_A99_7 : A99 0 7 = (A70 0 7) := (hj98.2 7 rfl)
                                refine va_get (D := (dC, dI)) (ci := 12) (v := .long (jI (A99 0 7))) (C := RX12) (T := TX12) (N := 85) hx hb hts hiX12 hown hK hP 0 wm0 rfl 7 (by decide) (hts _ (List.mem_cons_of_mem _ (wl_in_0 _ (List.mem_of_getElem? (i := 26) rfl)))) (fun _ h9 => h9) rfl dX12_ahead_265 ?_
                                refine tp_l (y := jI (A70 0 7)) (congrArg jI e_A99_7) ?_
                                have r_A70_0_7 : (-9223372036854775808 : Int) ≤ (A70 0 7) ∧ (A70 0 7) ≤ 9223372036854775807 := by rw [← e_A99_7]; exact hI 0 7
                                refine lv_bipush (v := iI 8) hx hb dX12_ahead_268 (by decide +kernel) ?_
                                refine lv_lshl hx hb dX12_ahead_270 rfl ?_
                                refine x_absl (fun z103 hz103 => ?_)
                                refine lv_aload_n hx hb dX12_ahead_271 rfl (lv_at hl 5 rfl) ?_
                                refine va_get (D := (dC, dI)) (ci := 12) (v := .ref (q 1)) (C := RX12) (T := TX12) (N := 85) hx hb hts hiX12 hown hK hP 0 wm0 rfl 0 (by decide) (hts _ (List.mem_cons_of_mem _ (wl_in_0 _ (List.mem_of_getElem? (i := 2) rfl)))) (fun _ h9 => h9) rfl dX12_ahead_272 ?_
                                refine lv_iload_n hx hb dX12_ahead_275 rfl (lv_at hl 4 rfl) ?_
                                have a_A49_1 : A49 1 = A 1 := (hj48.1 1 (by decide) rfl).trans a_A19_1
                                have a_A50_1 : A50 1 = A 1 := by rw [hA50]; exact a_A49_1
                                have a_A61_1 : A61 1 = A 1 := by rw [hA61]; exact a_A50_1
                                have a_A70_1 : A70 1 = A 1 := (hj69.1 1 (by decide) rfl).trans a_A61_1
                                have a_A99_1 : A99 1 = A 1 := (hj98.1 1 (by decide) rfl).trans a_A70_1
                                refine x_iald hx hb hK hP 1 1 wm1 rfl (by omega) (by decide) dX12_ahead_276 (fun z104 hz104 => ?_)
                                have rz104 : (0 : Int) ≤ z104 ∧ z104 ≤ 255 := by rw [hz104]; exact hI 1 _
                                have hz104 : z104 = A 1 (z68).toNat := hz104.trans (congrFun a_A99_1 _)
                                refine lv_i2l hx hb dX12_ahead_277 rfl ?_
                                refine x_absl (fun z105 hz105 => ?_)
                                refine lv_lor hx hb dX12_ahead_278 ?_
                                refine x_absl (fun z106 hz106 => ?_)
                                refine x_put (D := (dC, dI)) (ci := 12) (v := .long (jI z106)) (ty := .long) (C := RX12) (T := TX12) (N := 85) hx hb hts hiX12 tyX12 tyX12_ok nmX12 hown hK hP hDD hS 0 wm0 rfl 7 (by decide) (hts _ (List.mem_cons_of_mem _ (wl_in_0 _ (List.mem_of_getElem? (i := 26) rfl)))) (fun _ h9 => h9) rfl (by decide +kernel) rfl rfl (Nat.le_of_ble_eq_true rfl) dX12_ahead_279 (wf7 (v := z106)) (fun H locs hP hS => ?_)
                                have hI := hI.st (j := 0) (i := 7) (v := z106) (show (-9223372036854775808 : Int) ≤ z106 ∧ z106 ≤ 9223372036854775807 from (by omega))
                                exact J282_101 _ _ _ _ hI (fr.sf (fr.rf) rfl) hP hS (lv_sub hl [0, 1, 2, 3, 4, 5] rfl)
                          refine lv_icmp_ne (tgt := 252) hx hb dX12_ahead_243 (by decide) (fun c93 => ?_) (fun c93 => ?_)
                          · have c93 : ¬ z67 = z64 := mt (i_eq (rb f75 (by decide) (by decide)) (rb f66 (by decide) (by decide))).mpr c93
                            exact J252_94 _ _ _ _ hI (fr.rf) hP hS (lv_sub hl [0, 1, 2, 3, 4, 5] rfl)
                          · have c93 : z67 = z64 := (i_eq (rb f75 (by decide) (by decide)) (rb f66 (by decide) (by decide))).mp c93
                            refine lv_aload_n hx hb dX12_ahead_246 rfl (lv_at hl 5 rfl) ?_
                            refine lv_iconst (v := iI 1) hx hb dX12_ahead_247 (by decide +kernel) ?_
                            refine lv_iload_n hx hb dX12_ahead_248 rfl (lv_at hl 4 rfl) ?_
                            refine x_callv (As := [.int (iI 1), .int (iI z68)]) (rest := []) ⟨hx, hb, hml, hown, hts⟩ (mc_X12_blame l dC dI cB cI cJ cZ cQ q _ 1 z68 hI ⟨by decide, by decide⟩ f77) (cwV 2 hts (goodV (wl_in_0 _ (List.mem_of_getElem? (i := 31) rfl)) (wl_in_0 _ (List.mem_of_getElem? (i := 32) rfl)) (wl_in_0 _ (List.mem_of_getElem? (i := 33) rfl)) (wl_in_0 _ (List.mem_of_getElem? (i := 8) rfl)) (wl_in_0 _ (List.mem_of_getElem? (i := 15) rfl))) rfl rfl rfl (by decide +kernel) ⟨Nat.le_of_ble_eq_true rfl, Nat.le_of_ble_eq_true rfl⟩) hK hDD hA0 hP hS 0 12 wm0 rfl rfl hl.1 (Nat.le_of_ble_eq_true rfl) dX12_ahead_249 (fun A95 H locs hw96 hP hS => ?_)
                            obtain ⟨_, hI, hf97, hw96⟩ := hw96
                            have r_A95_0_8 : (0 : Int) ≤ (A95 0 8) ∧ (A95 0 8) ≤ 5 := hI 0 8
                            exact J252_94 _ _ _ _ hI (fr.trans (fr.rf) hf97 rfl rfl) hP hS (lv_sub hl [0, 1, 2, 3, 4, 5] rfl)
                        refine lv_if_eq (tgt := 227) hx hb dX12_ahead_209 (by decide) (fun c80 => ?_) (fun c80 => ?_)
                        · have c80 : z20 = 0 := (i_eq0 (rb rz20 (by decide) (by decide))).mp c80
                          refine lv_aload_n hx hb dX12_ahead_227 rfl (lv_at hl 5 rfl) ?_
                          refine va_get (D := (dC, dI)) (ci := 12) (v := .ref (q 1)) (C := RX12) (T := TX12) (N := 85) hx hb hts hiX12 hown hK hP 0 wm0 rfl 0 (by decide) (hts _ (List.mem_cons_of_mem _ (wl_in_0 _ (List.mem_of_getElem? (i := 2) rfl)))) (fun _ h9 => h9) rfl dX12_ahead_228 ?_
                          refine lv_iload_n hx hb dX12_ahead_231 rfl (lv_at hl 4 rfl) ?_
                          have a_A49_1 : A49 1 = A 1 := (hj48.1 1 (by decide) rfl).trans a_A19_1
                          have a_A50_1 : A50 1 = A 1 := by rw [hA50]; exact a_A49_1
                          have a_A61_1 : A61 1 = A 1 := by rw [hA61]; exact a_A50_1
                          have a_A70_1 : A70 1 = A 1 := (hj69.1 1 (by decide) rfl).trans a_A61_1
                          refine x_iald hx hb hK hP 1 1 wm1 rfl (by omega) (by decide) dX12_ahead_232 (fun z82 hz82 => ?_)
                          have rz82 : (0 : Int) ≤ z82 ∧ z82 ≤ 255 := by rw [hz82]; exact hI 1 _
                          have hz82 : z82 = A 1 (z68).toNat := hz82.trans (congrFun a_A70_1 _)
                          refine x_callSi (As := [.int (iI z82)]) (rest := []) ⟨hx, hb, hml, hown, hts⟩ (mc_X12_isDigit l dC dI cB cI cJ cZ cQ q _ z82 hI (rb rz82 (by decide) (by decide))) (va_cwS 1 hts (goodS (wl_in_0 _ (List.mem_of_getElem? (i := 29) rfl)) (wl_in_0 _ (List.mem_of_getElem? (i := 30) rfl)) (wl_in_0 _ (List.mem_of_getElem? (i := 8) rfl)) (wl_in_0 _ (List.mem_of_getElem? (i := 19) rfl))) rfl rfl rfl (by decide +kernel) ⟨Nat.le_of_ble_eq_true rfl, Nat.le_of_ble_eq_true rfl⟩) hK hDD hA0 hP hS rfl hl.1 (Nat.le_of_ble_eq_true rfl) dX12_ahead_233 (fun z83 A84 H locs hw85 hP hS => ?_)
                          obtain ⟨rfl, hw85⟩ := hw85
                          have hw85 := hw85.2
                          have rz83 : 0 ≤ z83 ∧ z83 ≤ 1 := hw85.1
                          refine lv_if_eq (tgt := 323) hx hb dX12_ahead_236 (by decide) (fun c86 => ?_) (fun c86 => ?_)
                          · have c86 : z83 = 0 := (i_eq0 (rb rz83 (by decide) (by decide))).mp c86
                            clear hw85
                            refine lv_aload_n hx hb dX12_ahead_323 rfl (lv_at hl 5 rfl) ?_
                            refine lv_iload_n hx hb dX12_ahead_324 rfl (lv_at hl 4 rfl) ?_
                            refine x_put (D := (dC, dI)) (ci := 12) (v := .int (iI z68)) (ty := .int) (C := RX12) (T := TX12) (N := 85) hx hb hts hiX12 tyX12 tyX12_ok nmX12 hown hK hP hDD hS 0 wm0 rfl 5 (by decide) (hts _ (List.mem_cons_of_mem _ (wl_in_0 _ (List.mem_of_getElem? (i := 21) rfl)))) (fun _ h9 => h9) rfl (by decide +kernel) rfl rfl (Nat.le_of_ble_eq_true rfl) dX12_ahead_325 (wf5 (v := z68)) (fun H locs hP hS => ?_)
                            have hI := hI.st (j := 0) (i := 5) (v := z68) (show (0 : Int) ≤ z68 ∧ z68 ≤ 1600 from (by omega))
                            exact RET _ _ _ _ _ ⟨hI, fr.sf (fr.trans (fr_def hA61 (fr.sf (fr_def hA50 (fr.sf (fr.sf (fr.sf (fr.sf (fr.trans (fr_def hA19 (fr.sf (fr.sf (fr.sf (fr.rf) rfl) rfl) rfl)) hj48 rfl rfl) rfl) rfl) rfl) rfl)) rfl)) hj69 rfl rfl) rfl, trivial⟩ hP hS dX12_ahead_328
                          · have c86 : ¬ z83 = 0 := mt (i_eq0 (rb rz83 (by decide) (by decide))).mpr c86
                            have hw85b := hw85.2.mp (by omega)
                            clear hw85
                            exact J239_81 _ _ _ hP hS (lv_sub hl [0, 1, 2, 3, 4, 5] rfl)
                        · have c80 : ¬ z20 = 0 := mt (i_eq0 (rb rz20 (by decide) (by decide))).mpr c80
                          refine lv_aload_n hx hb dX12_ahead_212 rfl (lv_at hl 5 rfl) ?_
                          refine va_get (D := (dC, dI)) (ci := 12) (v := .ref (q 1)) (C := RX12) (T := TX12) (N := 85) hx hb hts hiX12 hown hK hP 0 wm0 rfl 0 (by decide) (hts _ (List.mem_cons_of_mem _ (wl_in_0 _ (List.mem_of_getElem? (i := 2) rfl)))) (fun _ h9 => h9) rfl dX12_ahead_213 ?_
                          refine lv_iload_n hx hb dX12_ahead_216 rfl (lv_at hl 4 rfl) ?_
                          have a_A49_1 : A49 1 = A 1 := (hj48.1 1 (by decide) rfl).trans a_A19_1
                          have a_A50_1 : A50 1 = A 1 := by rw [hA50]; exact a_A49_1
                          have a_A61_1 : A61 1 = A 1 := by rw [hA61]; exact a_A50_1
                          have a_A70_1 : A70 1 = A 1 := (hj69.1 1 (by decide) rfl).trans a_A61_1
                          refine x_iald hx hb hK hP 1 1 wm1 rfl (by omega) (by decide) dX12_ahead_217 (fun z87 hz87 => ?_)
                          have rz87 : (0 : Int) ≤ z87 ∧ z87 ≤ 255 := by rw [hz87]; exact hI 1 _
                          have hz87 : z87 = A 1 (z68).toNat := hz87.trans (congrFun a_A70_1 _)
                          refine x_callSi (As := [.int (iI z87)]) (rest := []) ⟨hx, hb, hml, hown, hts⟩ (mc_X12_isLetter l dC dI cB cI cJ cZ cQ q _ z87 hI (rb rz87 (by decide) (by decide))) (va_cwS 1 hts (goodS (wl_in_0 _ (List.mem_of_getElem? (i := 27) rfl)) (wl_in_0 _ (List.mem_of_getElem? (i := 28) rfl)) (wl_in_0 _ (List.mem_of_getElem? (i := 8) rfl)) (wl_in_0 _ (List.mem_of_getElem? (i := 18) rfl))) rfl rfl rfl (by decide +kernel) ⟨Nat.le_of_ble_eq_true rfl, Nat.le_of_ble_eq_true rfl⟩) hK hDD hA0 hP hS rfl hl.1 (Nat.le_of_ble_eq_true rfl) dX12_ahead_218 (fun z88 A89 H locs hw90 hP hS => ?_)
                          obtain ⟨rfl, hw90⟩ := hw90
                          have hw90 := hw90.2
                          have rz88 : 0 ≤ z88 ∧ z88 ≤ 1 := hw90.1
                          refine lv_if_eq (tgt := 323) hx hb dX12_ahead_221 (by decide) (fun c91 => ?_) (fun c91 => ?_)
                          · have c91 : z88 = 0 := (i_eq0 (rb rz88 (by decide) (by decide))).mp c91
                            clear hw90
                            refine lv_aload_n hx hb dX12_ahead_323 rfl (lv_at hl 5 rfl) ?_
                            refine lv_iload_n hx hb dX12_ahead_324 rfl (lv_at hl 4 rfl) ?_
                            refine x_put (D := (dC, dI)) (ci := 12) (v := .int (iI z68)) (ty := .int) (C := RX12) (T := TX12) (N := 85) hx hb hts hiX12 tyX12 tyX12_ok nmX12 hown hK hP hDD hS 0 wm0 rfl 5 (by decide) (hts _ (List.mem_cons_of_mem _ (wl_in_0 _ (List.mem_of_getElem? (i := 21) rfl)))) (fun _ h9 => h9) rfl (by decide +kernel) rfl rfl (Nat.le_of_ble_eq_true rfl) dX12_ahead_325 (wf5 (v := z68)) (fun H locs hP hS => ?_)
                            have hI := hI.st (j := 0) (i := 5) (v := z68) (show (0 : Int) ≤ z68 ∧ z68 ≤ 1600 from (by omega))
                            exact RET _ _ _ _ _ ⟨hI, fr.sf (fr.trans (fr_def hA61 (fr.sf (fr_def hA50 (fr.sf (fr.sf (fr.sf (fr.sf (fr.trans (fr_def hA19 (fr.sf (fr.sf (fr.sf (fr.rf) rfl) rfl) rfl)) hj48 rfl rfl) rfl) rfl) rfl) rfl)) rfl)) hj69 rfl rfl) rfl, trivial⟩ hP hS dX12_ahead_328
                          · have c91 : ¬ z88 = 0 := mt (i_eq0 (rb rz88 (by decide) (by decide))).mpr c91
                            have hw90b := hw90.2.mp (by omega)
                            clear hw90
                            refine lv_goto (tgt := 239) hx hb dX12_ahead_224 (by decide) ?_
                            exact J239_81 _ _ _ hP hS (lv_sub hl [0, 1, 2, 3, 4, 5] rfl)
                  exact L200_71 _ 0 z1 _ _ _ _ (by omega) (by omega) (by omega) (by omega) (by omega) rfl hI (fr.rf) hP hS (lv_sub hl [0, 1, 2, 3, 4, 5] rfl)
                refine lv_if_eq (tgt := 194) hx hb dX12_ahead_186 (by decide) (fun c62 => ?_) (fun c62 => ?_)
                · have c62 : z20 = 0 := (i_eq0 (rb rz20 (by decide) (by decide))).mp c62
                  refine lv_iconst (v := iI 4) hx hb dX12_ahead_194 (by decide +kernel) ?_
                  exact J195_63 4 _ _ _ (by omega) hP hS (lv_sub hl [0, 1, 2, 3] rfl)
                · have c62 : ¬ z20 = 0 := mt (i_eq0 (rb rz20 (by decide) (by decide))).mpr c62
                  refine lv_bipush (v := iI 6) hx hb dX12_ahead_189 (by decide +kernel) ?_
                  refine lv_goto (tgt := 195) hx hb dX12_ahead_191 (by decide) ?_
                  exact J195_63 6 _ _ _ (by omega) hP hS (lv_sub hl [0, 1, 2, 3] rfl)
              refine lv_if_eq (tgt := 181) hx hb dX12_ahead_174 (by decide) (fun c56 => ?_) (fun c56 => ?_)
              · have c56 : z20 = 0 := (i_eq0 (rb rz20 (by decide) (by decide))).mp c56
                refine lv_iconst (v := iI 2) hx hb dX12_ahead_181 (by decide +kernel) ?_
                exact J182_57 2 _ _ _ (by omega) hP hS (lv_sub hl [0, 1, 2, 3] rfl)
              · have c56 : ¬ z20 = 0 := mt (i_eq0 (rb rz20 (by decide) (by decide))).mpr c56
                refine lv_iconst (v := iI 1) hx hb dX12_ahead_177 (by decide +kernel) ?_
                refine lv_goto (tgt := 182) hx hb dX12_ahead_178 (by decide) ?_
                exact J182_57 1 _ _ _ (by omega) hP hS (lv_sub hl [0, 1, 2, 3] rfl)
            refine lv_if_ne (tgt := 172) hx hb dX12_ahead_154 (by decide) (fun c51 => ?_) (fun c51 => ?_)
            · have c51 : ¬ z20 = 0 := mt (i_eq0 (rb rz20 (by decide) (by decide))).mpr c51
              exact J172_52 _ _ _ hP hS (lv_sub hl [0, 1, 2, 3] rfl)
            · have c51 : z20 = 0 := (i_eq0 (rb rz20 (by decide) (by decide))).mp c51
              refine lv_iload_n hx hb dX12_ahead_157 rfl (lv_at hl 0 rfl) ?_
              refine lv_if_ne (tgt := 172) hx hb dX12_ahead_158 (by decide) (fun c53 => ?_) (fun c53 => ?_)
              · have c53 : ¬ z24 = 0 := mt (i_eq0 (rb rz24 (by decide) (by decide))).mpr c53
                exact J172_52 _ _ _ hP hS (lv_sub hl [0, 1, 2, 3] rfl)
              · have c53 : z24 = 0 := (i_eq0 (rb rz24 (by decide) (by decide))).mp c53
                refine lv_aload_n hx hb dX12_ahead_161 rfl (lv_at hl 3 rfl) ?_
                refine lv_aload_n hx hb dX12_ahead_162 rfl (lv_at hl 3 rfl) ?_
                refine va_get (D := (dC, dI)) (ci := 12) (v := .ref (q 1)) (C := RX12) (T := TX12) (N := 85) hx hb hts hiX12 hown hK hP 0 wm0 rfl 0 (by decide) (hts _ (List.mem_cons_of_mem _ (wl_in_0 _ (List.mem_of_getElem? (i := 2) rfl)))) (fun _ h9 => h9) rfl dX12_ahead_163 ?_
                refine lv_iload_n hx hb dX12_ahead_166 rfl (lv_at hl 2 rfl) ?_
                have a_A49_1 : A49 1 = A 1 := (hj48.1 1 (by decide) rfl).trans a_A19_1
                have a_A50_1 : A50 1 = A 1 := by rw [hA50]; exact a_A49_1
                refine x_iald hx hb hK hP 1 1 wm1 rfl (by omega) (by decide) dX12_ahead_167 (fun z54 hz54 => ?_)
                have rz54 : (0 : Int) ≤ z54 ∧ z54 ≤ 255 := by rw [hz54]; exact hI 1 _
                have hz54 : z54 = A 1 (z1).toNat := hz54.trans (congrFun a_A50_1 _)
                have ez54 : z54 = z18 := hz54.trans hz18.symm
                refine x_put (D := (dC, dI)) (ci := 12) (v := .int (iI z54)) (ty := .int) (C := RX12) (T := TX12) (N := 85) hx hb hts hiX12 tyX12 tyX12_ok nmX12 hown hK hP hDD hS 0 wm0 rfl 6 (by decide) (hts _ (List.mem_cons_of_mem _ (wl_in_0 _ (List.mem_of_getElem? (i := 25) rfl)))) (fun _ h9 => h9) rfl (by decide +kernel) rfl rfl (Nat.le_of_ble_eq_true rfl) dX12_ahead_168 (wf6 (v := z54)) (fun H locs hP hS => ?_)
                have hI := hI.st (j := 0) (i := 6) (v := z54) (show (-2147483648 : Int) ≤ z54 ∧ z54 ≤ 2147483647 from (by omega))
                exact RET _ _ _ _ _ ⟨hI, fr.sf (fr_def hA50 (fr.sf (fr.sf (fr.sf (fr.sf (fr.trans (fr_def hA19 (fr.sf (fr.sf (fr.sf (fr.rf) rfl) rfl) rfl)) hj48 rfl rfl) rfl) rfl) rfl) rfl)) rfl, trivial⟩ hP hS dX12_ahead_171
          have J93_28 : ∀ (H : Heap) (locs : List Loc) (ls : Array Slot), va_P (dC, dI) vwCl (WM cI cJ cZ q A19) H → va_S AS s.heap H locs → lv_has ls 6 [(3, .int (iI z24)), (2, .int (iI z20)), (1, .int (iI z1)), (0, .ref (q 0))] → W p l e (headSpec ws_mc_X12_ahead ({ frames := 1, cells := 0, slots := 0, locals := 22 } : Room)).room s m [.ref (q 0)].toArray below meth c H locs 0 0 Q (F0 m 93 ls []) := by
            intro H locs ls hP hS hl
            clear hw22 hw26
            refine lv_iload_n hx hb dX12_ahead_93 rfl (lv_at hl 2 rfl) ?_
            refine lv_if_le (tgt := 131) hx hb dX12_ahead_94 (by decide) (fun c32 => ?_) (fun c32 => ?_)
            · have c32 : z1 ≤ 0 := (i_le0 (rb f7 (by decide) (by decide))).mp c32
              exact J131_29 _ _ _ _ hI (fr.rf) hP hS (lv_sub hl [0, 1, 2, 3] rfl)
            · have c32 : ¬ z1 ≤ 0 := mt (i_le0 (rb f7 (by decide) (by decide))).mpr c32
              refine lv_aload_n hx hb dX12_ahead_97 rfl (lv_at hl 3 rfl) ?_
              refine va_get (D := (dC, dI)) (ci := 12) (v := .ref (q 1)) (C := RX12) (T := TX12) (N := 85) hx hb hts hiX12 hown hK hP 0 wm0 rfl 0 (by decide) (hts _ (List.mem_cons_of_mem _ (wl_in_0 _ (List.mem_of_getElem? (i := 2) rfl)))) (fun _ h9 => h9) rfl dX12_ahead_98 ?_
              refine lv_iload_n hx hb dX12_ahead_101 rfl (lv_at hl 2 rfl) ?_
              refine lv_iconst (v := iI 1) hx hb dX12_ahead_102 (by decide +kernel) ?_
              refine x_subv (v := z1 - 1) hx hb dX12_ahead_103 (by omega) ?_
              refine x_iald hx hb hK hP 1 1 wm1 rfl (by omega) (by decide) dX12_ahead_104 (fun z33 hz33 => ?_)
              have rz33 : (0 : Int) ≤ z33 ∧ z33 ≤ 255 := by rw [hz33]; exact hI 1 _
              have hz33 : z33 = A 1 (z1 - 1).toNat := hz33.trans (congrFun a_A19_1 _)
              refine x_callSi (As := [.int (iI z33)]) (rest := []) ⟨hx, hb, hml, hown, hts⟩ (mc_X12_isLetter l dC dI cB cI cJ cZ cQ q _ z33 hI (rb rz33 (by decide) (by decide))) (va_cwS 1 hts (goodS (wl_in_0 _ (List.mem_of_getElem? (i := 27) rfl)) (wl_in_0 _ (List.mem_of_getElem? (i := 28) rfl)) (wl_in_0 _ (List.mem_of_getElem? (i := 8) rfl)) (wl_in_0 _ (List.mem_of_getElem? (i := 18) rfl))) rfl rfl rfl (by decide +kernel) ⟨Nat.le_of_ble_eq_true rfl, Nat.le_of_ble_eq_true rfl⟩) hK hDD hA0 hP hS rfl hl.1 (Nat.le_of_ble_eq_true rfl) dX12_ahead_105 (fun z34 A35 H locs hw36 hP hS => ?_)
              obtain ⟨rfl, hw36⟩ := hw36
              have hw36 := hw36.2
              have rz34 : 0 ≤ z34 ∧ z34 ≤ 1 := hw36.1
              have J125_38 : ∀ (H : Heap) (locs : List Loc) (ls : Array Slot), va_P (dC, dI) vwCl (WM cI cJ cZ q A19) H → va_S AS s.heap H locs → lv_has ls 6 [(3, .int (iI z24)), (2, .int (iI z20)), (1, .int (iI z1)), (0, .ref (q 0))] → W p l e (headSpec ws_mc_X12_ahead ({ frames := 1, cells := 0, slots := 0, locals := 22 } : Room)).room s m [.ref (q 0)].toArray below meth c H locs 0 0 Q (F0 m 125 ls []) := by
                intro H locs ls hP hS hl
                clear hw36
                refine lv_aload_n hx hb dX12_ahead_125 rfl (lv_at hl 3 rfl) ?_
                refine lv_iconst (v := iI 1) hx hb dX12_ahead_126 (by decide +kernel) ?_
                refine lv_iload_n hx hb dX12_ahead_127 rfl (lv_at hl 2 rfl) ?_
                refine x_callv (As := [.int (iI 1), .int (iI z1)]) (rest := []) ⟨hx, hb, hml, hown, hts⟩ (mc_X12_blame l dC dI cB cI cJ cZ cQ q _ 1 z1 hI ⟨by decide, by decide⟩ f7) (cwV 2 hts (goodV (wl_in_0 _ (List.mem_of_getElem? (i := 31) rfl)) (wl_in_0 _ (List.mem_of_getElem? (i := 32) rfl)) (wl_in_0 _ (List.mem_of_getElem? (i := 33) rfl)) (wl_in_0 _ (List.mem_of_getElem? (i := 8) rfl)) (wl_in_0 _ (List.mem_of_getElem? (i := 15) rfl))) rfl rfl rfl (by decide +kernel) ⟨Nat.le_of_ble_eq_true rfl, Nat.le_of_ble_eq_true rfl⟩) hK hDD hA0 hP hS 0 12 wm0 rfl rfl hl.1 (Nat.le_of_ble_eq_true rfl) dX12_ahead_128 (fun A45 H locs hw46 hP hS => ?_)
                obtain ⟨_, hI, hf47, hw46⟩ := hw46
                have r_A45_0_8 : (0 : Int) ≤ (A45 0 8) ∧ (A45 0 8) ≤ 5 := hI 0 8
                exact J131_29 _ _ _ _ hI (fr.trans (fr.rf) hf47 rfl rfl) hP hS (lv_sub hl [0, 1, 2, 3] rfl)
              refine lv_if_ne (tgt := 125) hx hb dX12_ahead_108 (by decide) (fun c37 => ?_) (fun c37 => ?_)
              · have c37 : ¬ z34 = 0 := mt (i_eq0 (rb rz34 (by decide) (by decide))).mpr c37
                have hw36b := hw36.2.mp (by omega)
                clear hw36
                exact J125_38 _ _ _ hP hS (lv_sub hl [0, 1, 2, 3] rfl)
              · have c37 : z34 = 0 := (i_eq0 (rb rz34 (by decide) (by decide))).mp c37
                clear hw36
                refine lv_aload_n hx hb dX12_ahead_111 rfl (lv_at hl 3 rfl) ?_
                refine va_get (D := (dC, dI)) (ci := 12) (v := .ref (q 1)) (C := RX12) (T := TX12) (N := 85) hx hb hts hiX12 hown hK hP 0 wm0 rfl 0 (by decide) (hts _ (List.mem_cons_of_mem _ (wl_in_0 _ (List.mem_of_getElem? (i := 2) rfl)))) (fun _ h9 => h9) rfl dX12_ahead_112 ?_
                refine lv_iload_n hx hb dX12_ahead_115 rfl (lv_at hl 2 rfl) ?_
                refine lv_iconst (v := iI 1) hx hb dX12_ahead_116 (by decide +kernel) ?_
                refine x_subv (v := z1 - 1) hx hb dX12_ahead_117 (by omega) ?_
                refine x_iald hx hb hK hP 1 1 wm1 rfl (by omega) (by decide) dX12_ahead_118 (fun z39 hz39 => ?_)
                have rz39 : (0 : Int) ≤ z39 ∧ z39 ≤ 255 := by rw [hz39]; exact hI 1 _
                have hz39 : z39 = A 1 (z1 - 1).toNat := hz39.trans (congrFun a_A19_1 _)
                have ez39 : z39 = z33 := hz39.trans hz33.symm
                refine x_callSi (As := [.int (iI z39)]) (rest := []) ⟨hx, hb, hml, hown, hts⟩ (mc_X12_isDigit l dC dI cB cI cJ cZ cQ q _ z39 hI (rb rz39 (by decide) (by decide))) (va_cwS 1 hts (goodS (wl_in_0 _ (List.mem_of_getElem? (i := 29) rfl)) (wl_in_0 _ (List.mem_of_getElem? (i := 30) rfl)) (wl_in_0 _ (List.mem_of_getElem? (i := 8) rfl)) (wl_in_0 _ (List.mem_of_getElem? (i := 19) rfl))) rfl rfl rfl (by decide +kernel) ⟨Nat.le_of_ble_eq_true rfl, Nat.le_of_ble_eq_true rfl⟩) hK hDD hA0 hP hS rfl hl.1 (Nat.le_of_ble_eq_true rfl) dX12_ahead_119 (fun z40 A41 H locs hw42 hP hS => ?_)
                obtain ⟨rfl, hw42⟩ := hw42
                have hw42 := hw42.2
                have rz40 : 0 ≤ z40 ∧ z40 ≤ 1 := hw42.1
                refine lv_if_eq (tgt := 131) hx hb dX12_ahead_122 (by decide) (fun c43 => ?_) (fun c43 => ?_)
                · have c43 : z40 = 0 := (i_eq0 (rb rz40 (by decide) (by decide))).mp c43
                  clear hw42
                  exact J131_29 _ _ _ _ hI (fr.rf) hP hS (lv_sub hl [0, 1, 2, 3] rfl)
                · have c43 : ¬ z40 = 0 := mt (i_eq0 (rb rz40 (by decide) (by decide))).mpr c43
                  have hw42b := hw42.2.mp (by omega)
                  clear hw42
                  exact J125_38 _ _ _ hP hS (lv_sub hl [0, 1, 2, 3] rfl)
          refine lv_if_ne (tgt := 93) hx hb dX12_ahead_86 (by decide) (fun c27 => ?_) (fun c27 => ?_)
          · have c27 : ¬ z20 = 0 := mt (i_eq0 (rb rz20 (by decide) (by decide))).mpr c27
            have hw22b := hw22.2.mp (by omega)
            clear hw22
            exact J93_28 _ _ _ hP hS (lv_sub hl [0, 1, 2, 3] rfl)
          · have c27 : z20 = 0 := (i_eq0 (rb rz20 (by decide) (by decide))).mp c27
            clear hw22
            refine lv_iload_n hx hb dX12_ahead_89 rfl (lv_at hl 0 rfl) ?_
            refine lv_if_eq (tgt := 131) hx hb dX12_ahead_90 (by decide) (fun c30 => ?_) (fun c30 => ?_)
            · have c30 : z24 = 0 := (i_eq0 (rb rz24 (by decide) (by decide))).mp c30
              clear hw26
              exact J131_29 _ _ _ _ hI (fr.rf) hP hS (lv_sub hl [0, 1, 2, 3] rfl)
            · have c30 : ¬ z24 = 0 := mt (i_eq0 (rb rz24 (by decide) (by decide))).mpr c30
              have hw26b := hw26.2.mp (by omega)
              clear hw26
              exact J93_28 _ _ _ hP hS (lv_sub hl [0, 1, 2, 3] rfl)
        · have c17 : ¬ z1 < (A 0 2) := mt (i_lt (rb f7 (by decide) (by decide)) (rb r_A_0_2 (by decide) (by decide))).mpr c17
          exact RET _ _ _ _ _ ⟨hI, fr.sf (fr.sf (fr.sf (fr.rf) rfl) rfl) rfl, trivial⟩ hP hS dX12_ahead_64
      refine lv_icmp_ge (tgt := 41) hx hb dX12_ahead_10 (by decide) (fun c8 => ?_) (fun c8 => ?_)
      · have c8 : (A 0 2) ≤ z1 := (i_le (rb r_A_0_2 (by decide) (by decide)) (rb f7 (by decide) (by decide))).mp c8
        exact J41_9 _ _ _ hP hS (lv_sub hl [0, 1] rfl)
      · have c8 : ¬ (A 0 2) ≤ z1 := mt (i_le (rb r_A_0_2 (by decide) (by decide)) (rb f7 (by decide) (by decide))).mpr c8
        refine lv_aload_n hx hb dX12_ahead_13 rfl (lv_at hl 1 rfl) ?_
        refine va_get (D := (dC, dI)) (ci := 12) (v := .ref (q 1)) (C := RX12) (T := TX12) (N := 85) hx hb hts hiX12 hown hK hP 0 wm0 rfl 0 (by decide) (hts _ (List.mem_cons_of_mem _ (wl_in_0 _ (List.mem_of_getElem? (i := 2) rfl)))) (fun _ h9 => h9) rfl dX12_ahead_14 ?_
        refine lv_iload_n hx hb dX12_ahead_17 rfl (lv_at hl 0 rfl) ?_
        refine x_iald hx hb hK hP 1 1 wm1 rfl (by omega) (by decide) dX12_ahead_18 (fun z10 hz10 => ?_)
        have rz10 : (0 : Int) ≤ z10 ∧ z10 ≤ 255 := by rw [hz10]; exact hI 1 _
        have hz10 : z10 = A 1 (z1).toNat := hz10
        refine lv_bipush (v := iI 32) hx hb dX12_ahead_19 (by decide +kernel) ?_
        have J35_12 : ∀ (H : Heap) (locs : List Loc) (ls : Array Slot), va_P (dC, dI) vwCl (WM cI cJ cZ q A) H → va_S AS s.heap H locs → lv_has ls 6 [(1, .int (iI z1)), (0, .ref (q 0))] → W p l e (headSpec ws_mc_X12_ahead ({ frames := 1, cells := 0, slots := 0, locals := 22 } : Room)).room s m [.ref (q 0)].toArray below meth c H locs 0 0 Q (F0 m 35 ls []) := by
          intro H locs ls hP hS hl
          refine lv_iinc (v := iI (z1 + 1)) (lv' := [(1, .int (iI (z1 + 1))), (0, .ref (q 0))]) hx hb dX12_ahead_35 hl (k := 0) rfl (i_inc (by omega)) (by decide) rfl (fun ls hl => ?_)
          refine lv_goto (tgt := 5) hx hb dX12_ahead_38 (by decide) ?_
          exact ih4 _ (by omega) (z1 + 1) _ _ _ (by omega) (by omega) rfl hP hS (lv_sub hl [0, 1] rfl)
        refine lv_icmp_eq (tgt := 35) hx hb dX12_ahead_21 (by decide) (fun c11 => ?_) (fun c11 => ?_)
        · have c11 : z10 = 32 := (i_eq (rb rz10 (by decide) (by decide)) ⟨by decide, by decide⟩).mp c11
          exact J35_12 _ _ _ hP hS (lv_sub hl [0, 1] rfl)
        · have c11 : ¬ z10 = 32 := mt (i_eq (rb rz10 (by decide) (by decide)) ⟨by decide, by decide⟩).mpr c11
          refine lv_aload_n hx hb dX12_ahead_24 rfl (lv_at hl 1 rfl) ?_
          refine va_get (D := (dC, dI)) (ci := 12) (v := .ref (q 1)) (C := RX12) (T := TX12) (N := 85) hx hb hts hiX12 hown hK hP 0 wm0 rfl 0 (by decide) (hts _ (List.mem_cons_of_mem _ (wl_in_0 _ (List.mem_of_getElem? (i := 2) rfl)))) (fun _ h9 => h9) rfl dX12_ahead_25 ?_
          refine lv_iload_n hx hb dX12_ahead_28 rfl (lv_at hl 0 rfl) ?_
          refine x_iald hx hb hK hP 1 1 wm1 rfl (by omega) (by decide) dX12_ahead_29 (fun z13 hz13 => ?_)
          have rz13 : (0 : Int) ≤ z13 ∧ z13 ≤ 255 := by rw [hz13]; exact hI 1 _
          have hz13 : z13 = A 1 (z1).toNat := hz13
          have ez13 : z13 = z10 := hz13.trans hz10.symm
          refine lv_bipush (v := iI 10) hx hb dX12_ahead_30 (by decide +kernel) ?_
          refine lv_icmp_ne (tgt := 41) hx hb dX12_ahead_32 (by decide) (fun c14 => ?_) (fun c14 => ?_)
          · have c14 : ¬ z13 = 10 := mt (i_eq (rb rz13 (by decide) (by decide)) ⟨by decide, by decide⟩).mpr c14
            exact J41_9 _ _ _ hP hS (lv_sub hl [0, 1] rfl)
          · have c14 : z13 = 10 := (i_eq (rb rz13 (by decide) (by decide)) ⟨by decide, by decide⟩).mp c14
            exact J35_12 _ _ _ hP hS (lv_sub hl [0, 1] rfl)
  exact L5_3 _ (A 0 5) _ _ _ (by omega) (by omega) rfl hP hS (lv_sub hl [0, 1] rfl)
