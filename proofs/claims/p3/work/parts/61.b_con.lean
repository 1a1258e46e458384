def ws_mb_X12_ahead : List Cond := .code yX12_ahead cX12_ahead 6 none :: WX
set_option maxHeartbeats 4000000 in
set_option maxRecDepth 100000 in
theorem mb_X12_ahead (l : Launch) (dC : Nat → ClassId) (dI : Nat → Nat → Nat) (cB cI cJ cZ cQ : ClassId) (q : Nat → Nat) (A : St) (hI : IM A) : XMv l yX12_ahead ws_mb_X12_ahead ({ frames := 1, cells := 0, slots := 0, locals := 22 } : Room) (dC, dI) (tyA cB cI cJ cZ cQ) (WM cI cJ cZ q) A [.ref (q 0)] (fun u => IM u ∧ fr [] [3, 4, 5, 6, 7, 8, 9] A u ∧ (A 0 5 ≤ u 0 4 ∧ u 0 4 ≤ u 0 5 ∧ LX u ∧ (u 0 8 = 0 → A 0 8 = 0) ∧ (u 0 8 = 0 → u 0 3 = 1 → 1 ≤ u 0 4 → (A 1 (u 0 4 - 1).toNat < 97 ∨ 122 < A 1 (u 0 4 - 1).toNat)))) := by
  refine x_metv (cc := cX12_ahead) (maxL := 6) WM_adr (by decide +kernel) rfl (Nat.le_of_ble_eq_true rfl) (fun p e s m below meth c Q AS ls hx hb hml hown hts hK hDD hA0 hP hS hl RET => ?_)
  have hown : s.vm.findClass RX12 = some m.cls := hown
  have hl : lv_has ls 6 [(0, .ref (q 0))] := hl
  have hiX12 : ∀ w ∈ u_ws RX12 TX12 85, w ∈ ws_mb_X12_ahead := fun w h => List.mem_cons_of_mem _ (wx_lay w h)
  obtain ⟨H, hHe⟩ : ∃ H : Heap, H = s.heap := ⟨_, rfl⟩
  rw [← hHe] at hP
  have hS : va_S AS s.heap H [] := by rw [hHe]; exact hS
  suffices hgo : ∀ locs : List Loc, va_S AS s.heap H locs → W p l e (headSpec ws_mb_X12_ahead ({ frames := 1, cells := 0, slots := 0, locals := 22 } : Room)).room s m [.ref (q 0)].toArray below meth c H locs 0 0 Q (F0 m 0 ls []) by
    have := hgo [] hS
    rw [hHe] at this
    exact this
  clear hS hHe
  intro locs hS
  refine lv_aload_n hx hb dX12_ahead_0 rfl (lv_at hl 0 rfl) ?_
  refine va_get (D := (dC, dI)) (ci := 12) (v := .int (iI (A 0 5))) (C := RX12) (T := TX12) (N := 85) hx hb hts hiX12 hown hK hP 0 wm0 rfl 5 (by decide) (hts _ (List.mem_cons_of_mem _ (wl_in_0 _ (List.mem_of_getElem? (i := 21) rfl)))) (fun _ h9 => h9) rfl dX12_ahead_1 ?_
  have r_A_0_5 : (0 : Int) ≤ (A 0 5) ∧ (A 0 5) ≤ 1600 := hI 0 5
  refine lv_istore_n (lv' := [(1, .int (iI (A 0 5))), (0, .ref (q 0))]) hx hb dX12_ahead_4 rfl hl (by decide) rfl (fun ls hl => ?_)
  have L5_3 : ∀ (n5 : Nat) (z1 : Int) (H : Heap) (locs : List Loc) (ls : Array Slot), ((A 0 5) ≤ z1) → (0 ≤ z1 ∧ z1 ≤ 1600) → (((A 0 2) - z1 + 1).toNat = n5) → va_P (dC, dI) vwCl (WM cI cJ cZ q A) H → va_S AS s.heap H locs → lv_has ls 6 [(1, .int (iI z1)), (0, .ref (q 0))] → W p l e (headSpec ws_mb_X12_ahead ({ frames := 1, cells := 0, slots := 0, locals := 22 } : Room)).room s m [.ref (q 0)].toArray below meth c H locs 0 0 Q (F0 m 5 ls []) := by
    intro n5
    induction n5 using Nat.strongRecOn with
    | ind n5 ih4 =>
      intro z1 H locs ls f6 f7 hn5 hP hS hl
      refine lv_iload_n hx hb dX12_ahead_5 rfl (lv_at hl 0 rfl) ?_
      refine lv_aload_n hx hb dX12_ahead_6 rfl (lv_at hl 1 rfl) ?_
      refine va_get (D := (dC, dI)) (ci := 12) (v := .int (iI (A 0 2))) (C := RX12) (T := TX12) (N := 85) hx hb hts hiX12 hown hK hP 0 wm0 rfl 2 (by decide) (hts _ (List.mem_cons_of_mem _ (wl_in_0 _ (List.mem_of_getElem? (i := 22) rfl)))) (fun _ h9 => h9) rfl dX12_ahead_7 ?_
      have r_A_0_2 : (0 : Int) ≤ (A 0 2) ∧ (A 0 2) ≤ 1600 := hI 0 2
      have J41_9 : ∀ (H : Heap) (locs : List Loc) (ls : Array Slot), va_P (dC, dI) vwCl (WM cI cJ cZ q A) H → va_S AS s.heap H locs → lv_has ls 6 [(1, .int (iI z1)), (0, .ref (q 0))] → W p l e (headSpec ws_mb_X12_ahead ({ frames := 1, cells := 0, slots := 0, locals := 22 } : Room)).room s m [.ref (q 0)].toArray below meth c H locs 0 0 Q (F0 m 41 ls []) := by
        intro H locs ls hP hS hl
        refine lv_aload_n hx hb dX12_ahead_41 rfl (lv_at hl 1 rfl) ?_
        refine lv_iload_n hx hb dX12_ahead_42 rfl (lv_at hl 0 rfl) ?_
        refine x_put (D := (dC, dI)) (ci := 12) (v := .int (iI z1)) (ty := .int) (C := RX12) (T := TX12) (N := 85) hx hb hts hiX12 tyX12 tyX12_ok nmX12 hown hK hP hDD hS 0 wm0 rfl 4 (by decide) (hts _ (List.mem_cons_of_mem _ (wl_in_0 _ (List.mem_of_getElem? (i := 23) rfl)))) (fun _ h9 => h9) rfl (by decide +kernel) rfl rfl (Nat.le_of_ble_eq_true rfl) dX12_ahead_43 (wf4 (v := z1)) (fun H locs hP hS => ?_)
        have hI := hI.st (j := 0) (i := 4) (v := z1) (show (0 : Int) ≤ z1 ∧ z1 ≤ 1600 from (by omega))
        refine lv_aload_n hx hb dX12_ahead_46 rfl (lv_at hl 1 rfl) ?_
        refine lv_iload_n hx hb dX12_ahead_47 rfl (lv_at hl 0 rfl) ?_
        refine x_put (D := (dC, dI)) (ci := 12) (v := .int (iI z1)) (ty := .int) (C := RX12) (T := TX12) (N := 85) hx hb hts hiX12 tyX12 tyX12_ok nmX12 hown hK hP hDD hS 0 wm0 rfl 5 (by decide) (hts _ (List.mem_cons_of_mem _ (wl_in_0 _ (List.mem_of_getElem? (i := 21) rfl)))) (fun _ h9 => h9) rfl (by decide +kernel) rfl rfl (Nat.le_of_ble_eq_true rfl) dX12_ahead_48 (wf5 (v := z1)) (fun H locs hP hS => ?_)
        have hI := hI.st (j := 0) (i := 5) (v := z1) (show (0 : Int) ≤ z1 ∧ z1 ≤ 1600 from (by omega))
        refine lv_aload_n hx hb dX12_ahead_51 rfl (lv_at hl 1 rfl) ?_
        refine lv_iconst (v := iI 0) hx hb dX12_ahead_52 (by decide +kernel) ?_
        refine x_put (D := (dC, dI)) (ci := 12) (v := .int (iI 0)) (ty := .int) (C := RX12) (T := TX12) (N := 85) hx hb hts hiX12 tyX12 tyX12_ok nmX12 hown hK hP hDD hS 0 wm0 rfl 3 (by decide) (hts _ (List.mem_cons_of_mem _ (wl_in_0 _ (List.mem_of_getElem? (i := 24) rfl)))) (fun _ h9 => h9) rfl (by decide +kernel) rfl rfl (Nat.le_of_ble_eq_true rfl) dX12_ahead_53 (wf3 (v := 0)) (fun H locs hP hS => ?_)
        have hI := hI.st (j := 0) (i := 3) (v := 0) (show (0 : Int) ≤ 0 ∧ 0 ≤ 3 from (by omega))
        refine lv_iload_n hx hb dX12_ahead_56 rfl (lv_at hl 0 rfl) ?_
        refine lv_aload_n hx hb dX12_ahead_57 rfl (lv_at hl 1 rfl) ?_
        refine va_get (D := (dC, dI)) (ci := 12) (v := .int (iI (A 0 2))) (C := RX12) (T := TX12) (N := 85) hx hb hts hiX12 hown hK hP 0 wm0 rfl 2 (by decide) (hts _ (List.mem_cons_of_mem _ (wl_in_0 _ (List.mem_of_getElem? (i := 22) rfl)))) (fun _ h9 => h9) rfl dX12_ahead_58 ?_
        refine lv_icmp_lt (tgt := 65) hx hb dX12_ahead_61 (by decide) (fun c17 => ?_) (fun c17 => ?_)
        · have c17 : z1 < (A 0 2) := (i_lt (rb f7 (by decide) (by decide)) (rb r_A_0_2 (by decide) (by decide))).mp c17
          refine lv_aload_n hx hb dX12_ahead_65 rfl (lv_at hl 1 rfl) ?_
          refine va_get (D := (dC, dI)) (ci := 12) (v := .ref (q 1)) (C := RX12) (T := TX12) (N := 85) hx hb hts hiX12 hown hK hP 0 wm0 rfl 0 (by decide) (hts _ (List.mem_cons_of_mem _ (wl_in_0 _ (List.mem_of_getElem? (i := 2) rfl)))) (fun _ h9 => h9) rfl dX12_ahead_66 ?_
          refine lv_iload_n hx hb dX12_ahead_69 rfl (lv_at hl 0 rfl) ?_
          refine x_iald hx hb hK hP 1 1 wm1 rfl (by omega) (by decide) dX12_ahead_70 (fun z18 hz18 => ?_)
          have rz18 : (0 : Int) ≤ z18 ∧ z18 ≤ 255 := by rw [hz18]; exact hI 1 _
          have hz18 : z18 = A 1 (z1).toNat := hz18
          obtain ⟨A19, hA19⟩ : ∃ A19 : St, A19 = (stA (stA (stA A 0 4 z1) 0 5 z1) 0 3 0) := ⟨_, rfl⟩
          rw [← hA19] at hP hI
          refine x_callSi (As := [.int (iI z18)]) (rest := []) ⟨hx, hb, hml, hown, hts⟩ (mc_X12_isLetter l dC dI cB cI cJ cZ cQ q _ z18 hI (rb rz18 (by decide) (by decide))) (va_cwS 1 hts (goodS (wl_in_0 _ (List.mem_of_getElem? (i := 27) rfl)) (wl_in_0 _ (List.mem_of_getElem? (i := 28) rfl)) (wl_in_0 _ (List.mem_of_getElem? (i := 8) rfl)) (wl_in_0 _ (List.mem_of_getElem? (i := 18) rfl))) rfl rfl rfl (by decide +kernel) ⟨Nat.le_of_ble_eq_true rfl, Nat.le_of_ble_eq_true rfl⟩) hK hDD hA0 hP hS rfl hl.1 (Nat.le_of_ble_eq_true rfl) dX12_ahead_71 (fun z20 A21 H locs hw22 hP hS => ?_)
          obtain ⟨rfl, hw22⟩ := hw22
          have rz20 : 0 ≤ z20 ∧ z20 ≤ 1 := hw22.1
          replace hw22 := Hd.mk hw22.2
          refine lv_istore_n (lv' := [(2, .int (iI z20)), (1, .int (iI z1)), (0, .ref (q 0))]) hx hb dX12_ahead_74 rfl hl (by decide) rfl (fun ls hl => ?_)
          refine lv_aload_n hx hb dX12_ahead_75 rfl (lv_at hl 2 rfl) ?_
          refine va_get (D := (dC, dI)) (ci := 12) (v := .ref (q 1)) (C := RX12) (T := TX12) (N := 85) hx hb hts hiX12 hown hK hP 0 wm0 rfl 0 (by decide) (hts _ (List.mem_cons_of_mem _ (wl_in_0 _ (List.mem_of_getElem? (i := 2) rfl)))) (fun _ h9 => h9) rfl dX12_ahead_76 ?_
          refine lv_iload_n hx hb dX12_ahead_79 rfl (lv_at hl 1 rfl) ?_
          have a_A19_1 : A19 1 = A 1 := by rw [hA19]; exact rfl
          refine x_iald hx hb hK hP 1 1 wm1 rfl (by omega) (by decide) dX12_ahead_80 (fun z23 hz23 => ?_)
          have rz23 : (0 : Int) ≤ z23 ∧ z23 ≤ 255 := by rw [hz23]; exact hI 1 _
          have hz23 : z23 = A 1 (z1).toNat := hz23.trans (congrFun a_A19_1 _)
          have ez23 : z23 = z18 := hz23.trans hz18.symm
          refine x_callSi (As := [.int (iI z23)]) (rest := []) ⟨hx, hb, hml, hown, hts⟩ (mc_X12_isDigit l dC dI cB cI cJ cZ cQ q _ z23 hI (rb rz23 (by decide) (by decide))) (va_cwS 1 hts (goodS (wl_in_0 _ (List.mem_of_getElem? (i := 29) rfl)) (wl_in_0 _ (List.mem_of_getElem? (i := 30) rfl)) (wl_in_0 _ (List.mem_of_getElem? (i := 8) rfl)) (wl_in_0 _ (List.mem_of_getElem? (i := 19) rfl))) rfl rfl rfl (by decide +kernel) ⟨Nat.le_of_ble_eq_true rfl, Nat.le_of_ble_eq_true rfl⟩) hK hDD hA0 hP hS rfl hl.1 (Nat.le_of_ble_eq_true rfl) dX12_ahead_81 (fun z24 A25 H locs hw26 hP hS => ?_)
          obtain ⟨rfl, hw26⟩ := hw26
          have rz24 : 0 ≤ z24 ∧ z24 ≤ 1 := hw26.1
          replace hw26 := Hd.mk hw26.2
          refine lv_istore_n (lv' := [(3, .int (iI z24)), (2, .int (iI z20)), (1, .int (iI z1)), (0, .ref (q 0))]) hx hb dX12_ahead_84 rfl hl (by decide) rfl (fun ls hl => ?_)
          refine lv_iload_n hx hb dX12_ahead_85 rfl (lv_at hl 1 rfl) ?_
          have J131_29 : ∀ (A49 : St) (H : Heap) (locs : List Loc) (ls : Array Slot), (Hd ((A49 0 8) = 0 → A 0 8 = 0 ∧ (z20 = 1 → 1 ≤ z1 → (A 1 (z1 - 1).toNat < 97 ∨ 122 < A 1 (z1 - 1).toNat)))) → IM A49 → fr [] [8, 9] A19 A49 → va_P (dC, dI) vwCl (WM cI cJ cZ q A49) H → va_S AS s.heap H locs → lv_has ls 6 [(3, .int (iI z24)), (2, .int (iI z20)), (1, .int (iI z1)), (0, .ref (q 0))] → W p l e (headSpec ws_mb_X12_ahead ({ frames := 1, cells := 0, slots := 0, locals := 22 } : Room)).room s m [.ref (q 0)].toArray below meth c H locs 0 0 Q (F0 m 131 ls []) := by
            intro A49 H locs ls f50 hI hj48 hP hS hl
            refine lv_aload_n hx hb dX12_ahead_131 rfl (lv_at hl 3 rfl) ?_
            refine lv_iconst (v := iI 0) hx hb dX12_ahead_132 (by decide +kernel) ?_
            refine x_put (D := (dC, dI)) (ci := 12) (v := .int (iI 0)) (ty := .int) (C := RX12) (T := TX12) (N := 85) hx hb hts hiX12 tyX12 tyX12_ok nmX12 hown hK hP hDD hS 0 wm0 rfl 6 (by decide) (hts _ (List.mem_cons_of_mem _ (wl_in_0 _ (List.mem_of_getElem? (i := 25) rfl)))) (fun _ h9 => h9) rfl (by decide +kernel) rfl rfl (Nat.le_of_ble_eq_true rfl) dX12_ahead_133 (wf6 (v := 0)) (fun H locs hP hS => ?_)
            have hI := hI.st (j := 0) (i := 6) (v := 0) (show (-2147483648 : Int) ≤ 0 ∧ 0 ≤ 2147483647 from (by omega))
            refine lv_aload_n hx hb dX12_ahead_136 rfl (lv_at hl 3 rfl) ?_
            refine lv_lconst (v := jI 0) hx hb dX12_ahead_137 (by decide +kernel) ?_
            refine x_put (D := (dC, dI)) (ci := 12) (v := .long (jI 0)) (ty := .long) (C := RX12) (T := TX12) (N := 85) hx hb hts hiX12 tyX12 tyX12_ok nmX12 hown hK hP hDD hS 0 wm0 rfl 7 (by decide) (hts _ (List.mem_cons_of_mem _ (wl_in_0 _ (List.mem_of_getElem? (i := 26) rfl)))) (fun _ h9 => h9) rfl (by decide +kernel) rfl rfl (Nat.le_of_ble_eq_true rfl) dX12_ahead_138 (wf7 (v := 0)) (fun H locs hP hS => ?_)
            have hI := hI.st (j := 0) (i := 7) (v := 0) (show (-9223372036854775808 : Int) ≤ 0 ∧ 0 ≤ 9223372036854775807 from (by omega))
            refine lv_aload_n hx hb dX12_ahead_141 rfl (lv_at hl 3 rfl) ?_
            refine lv_iconst (v := iI 3) hx hb dX12_ahead_142 (by decide +kernel) ?_
            refine x_put (D := (dC, dI)) (ci := 12) (v := .int (iI 3)) (ty := .int) (C := RX12) (T := TX12) (N := 85) hx hb hts hiX12 tyX12 tyX12_ok nmX12 hown hK hP hDD hS 0 wm0 rfl 3 (by decide) (hts _ (List.mem_cons_of_mem _ (wl_in_0 _ (List.mem_of_getElem? (i := 24) rfl)))) (fun _ h9 => h9) rfl (by decide +kernel) rfl rfl (Nat.le_of_ble_eq_true rfl) dX12_ahead_143 (wf3 (v := 3)) (fun H locs hP hS => ?_)
            have hI := hI.st (j := 0) (i := 3) (v := 3) (show (0 : Int) ≤ 3 ∧ 3 ≤ 3 from (by omega))
            refine lv_aload_n hx hb dX12_ahead_146 rfl (lv_at hl 3 rfl) ?_
            refine lv_iload_n hx hb dX12_ahead_147 rfl (lv_at hl 2 rfl) ?_
            refine lv_iconst (v := iI 1) hx hb dX12_ahead_148 (by decide +kernel) ?_
            refine x_addv (v := z1 + 1) hx hb dX12_ahead_149 (by omega) ?_
            refine x_put (D := (dC, dI)) (ci := 12) (v := .int (iI (z1 + 1))) (ty := .int) (C := RX12) (T := TX12) (N := 85) hx hb hts hiX12 tyX12 tyX12_ok nmX12 hown hK hP hDD hS 0 wm0 rfl 5 (by decide) (hts _ (List.mem_cons_of_mem _ (wl_in_0 _ (List.mem_of_getElem? (i := 21) rfl)))) (fun _ h9 => h9) rfl (by decide +kernel) rfl rfl (Nat.le_of_ble_eq_true rfl) dX12_ahead_150 (wf5 (v := z1 + 1)) (fun H locs hP hS => ?_)
            have hI := hI.st (j := 0) (i := 5) (v := z1 + 1) (show (0 : Int) ≤ z1 + 1 ∧ z1 + 1 ≤ 1600 from (by omega))
            refine lv_iload_n hx hb dX12_ahead_153 rfl (lv_at hl 1 rfl) ?_
            obtain ⟨A51, hA51⟩ : ∃ A51 : St, A51 = (stA (stA (stA (stA A49 0 6 0) 0 7 0) 0 3 3) 0 5 (z1 + 1)) := ⟨_, rfl⟩
            rw [← hA51] at hP hI
            have J172_53 : ∀ (H : Heap) (locs : List Loc) (ls : Array Slot), (Hd (z20 = 1 ∨ z24 = 1)) → va_P (dC, dI) vwCl (WM cI cJ cZ q A51) H → va_S AS s.heap H locs → lv_has ls 6 [(3, .int (iI z24)), (2, .int (iI z20)), (1, .int (iI z1)), (0, .ref (q 0))] → W p l e (headSpec ws_mb_X12_ahead ({ frames := 1, cells := 0, slots := 0, locals := 22 } : Room)).room s m [.ref (q 0)].toArray below meth c H locs 0 0 Q (F0 m 172 ls []) := by
              intro H locs ls f58 hP hS hl
              refine lv_aload_n hx hb dX12_ahead_172 rfl (lv_at hl 3 rfl) ?_
              refine lv_iload_n hx hb dX12_ahead_173 rfl (lv_at hl 1 rfl) ?_
              have J182_60 : ∀ (z61 : Int) (H : Heap) (locs : List Loc) (ls : Array Slot), (1 ≤ z61 ∧ z61 ≤ 2) → (Hd ((z20 = 1 ∧ z61 = 1) ∨ (z20 = 0 ∧ z61 = 2))) → va_P (dC, dI) vwCl (WM cI cJ cZ q A51) H → va_S AS s.heap H locs → lv_has ls 6 [(3, .int (iI z24)), (2, .int (iI z20)), (1, .int (iI z1)), (0, .ref (q 0))] → W p l e (headSpec ws_mb_X12_ahead ({ frames := 1, cells := 0, slots := 0, locals := 22 } : Room)).room s m [.ref (q 0)].toArray below meth c H locs 0 0 Q (F0 m 182 ls [.int (iI z61), .ref (q 0)]) := by
                intro z61 H locs ls f63 f64 hP hS hl
                refine x_put (D := (dC, dI)) (ci := 12) (v := .int (iI z61)) (ty := .int) (C := RX12) (T := TX12) (N := 85) hx hb hts hiX12 tyX12 tyX12_ok nmX12 hown hK hP hDD hS 0 wm0 rfl 3 (by decide) (hts _ (List.mem_cons_of_mem _ (wl_in_0 _ (List.mem_of_getElem? (i := 24) rfl)))) (fun _ h9 => h9) rfl (by decide +kernel) rfl rfl (Nat.le_of_ble_eq_true rfl) dX12_ahead_182 (wf3 (v := z61)) (fun H locs hP hS => ?_)
                have hI := hI.st (j := 0) (i := 3) (v := z61) (show (0 : Int) ≤ z61 ∧ z61 ≤ 3 from (by omega))
                refine lv_iload_n hx hb dX12_ahead_185 rfl (lv_at hl 1 rfl) ?_
                obtain ⟨A65, hA65⟩ : ∃ A65 : St, A65 = (stA A51 0 3 z61) := ⟨_, rfl⟩
                rw [← hA65] at hP hI
                have J195_67 : ∀ (z68 : Int) (H : Heap) (locs : List Loc) (ls : Array Slot), (4 ≤ z68 ∧ z68 ≤ 6) → (Hd (z20 = 1 → z68 = 6)) → va_P (dC, dI) vwCl (WM cI cJ cZ q A65) H → va_S AS s.heap H locs → lv_has ls 6 [(3, .int (iI z24)), (2, .int (iI z20)), (1, .int (iI z1)), (0, .ref (q 0))] → W p l e (headSpec ws_mb_X12_ahead ({ frames := 1, cells := 0, slots := 0, locals := 22 } : Room)).room s m [.ref (q 0)].toArray below meth c H locs 0 0 Q (F0 m 195 ls [.int (iI z68)]) := by
                  intro z68 H locs ls f70 f71 hP hS hl
                  refine lv_istore (lv' := [(4, .int (iI z68)), (3, .int (iI z24)), (2, .int (iI z20)), (1, .int (iI z1)), (0, .ref (q 0))]) hx hb dX12_ahead_195 hl (by decide) rfl (fun ls hl => ?_)
                  refine lv_iconst (v := iI 0) hx hb dX12_ahead_197 (by decide +kernel) ?_
                  refine lv_istore (lv' := [(5, .int (iI 0)), (4, .int (iI z68)), (3, .int (iI z24)), (2, .int (iI z20)), (1, .int (iI z1)), (0, .ref (q 0))]) hx hb dX12_ahead_198 hl (by decide) rfl (fun ls hl => ?_)
                  have e_A19_4 : A19 0 4 = z1 := by rw [hA19]; rfl
                  have e_A49_4 : A49 0 4 = z1 := (hj48.2 4 rfl).trans e_A19_4
                  have e_A51_4 : A51 0 4 = z1 := by rw [hA51]; exact e_A49_4
                  have e_A65_4 : A65 0 4 = z1 := by rw [hA65]; exact e_A51_4
                  have e_A51_7 : A51 0 7 = 0 := by rw [hA51]; rfl
                  have e_A65_7 : A65 0 7 = 0 := by rw [hA65]; exact e_A51_7
                  have e_A51_8 : A51 0 8 = (A49 0 8) := by rw [hA51]; exact rfl
                  have e_A65_8 : A65 0 8 = (A49 0 8) := by rw [hA65]; exact e_A51_8
                  have r_A49_0_8 : (0 : Int) ≤ (A49 0 8) ∧ (A49 0 8) ≤ 5 := by rw [← e_A65_8]; exact hI 0 8
                  have L200_76 : ∀ (n78 : Nat) (z72 z73 : Int) (A75 : St) (H : Heap) (locs : List Loc) (ls : Array Slot), (0 ≤ z72) → (0 ≤ z72 ∧ z72 ≤ 1600) → (z1 ≤ z73) → (0 ≤ z73 ∧ z73 ≤ 1600) → (z72 ≤ z73) → (z73 = (A75 0 4) + z72) → (Hd ((A75 0 8) = 0 → A65 0 8 = 0)) → (Hd (z20 = 1 → ((z72 = 0 ∧ z73 < A 0 2 ∧ 97 ≤ A 1 z73.toNat ∧ A 1 z73.toNat ≤ 122) ∨ (1 ≤ z72 ∧ 97 ≤ A 1 (z73 - 1).toNat ∧ A 1 (z73 - 1).toNat ≤ 122)))) → (Hd (z20 = 0 → ((z72 = 0 ∧ z73 < A 0 2 ∧ 48 ≤ A 1 z73.toNat ∧ A 1 z73.toNat ≤ 57) ∨ 1 ≤ z72))) → (Hd (z20 = 1 → ((z72 = 0 → (A75 0 7) = 0) ∧ (z72 ≤ 1 → 0 ≤ (A75 0 7) ∧ (A75 0 7) ≤ 255) ∧ (z72 ≤ 2 → 0 ≤ (A75 0 7) ∧ (A75 0 7) ≤ 65535)))) → (((A 0 2) - z73 + 1).toNat = n78) → IM A75 → fr [] [6, 7, 8, 9] A65 A75 → va_P (dC, dI) vwCl (WM cI cJ cZ q A75) H → va_S AS s.heap H locs → lv_has ls 6 [(5, .int (iI z72)), (4, .int (iI z68)), (3, .int (iI z24)), (2, .int (iI z20)), (1, .int (iI z73)), (0, .ref (q 0))] → W p l e (headSpec ws_mb_X12_ahead ({ frames := 1, cells := 0, slots := 0, locals := 22 } : Room)).room s m [.ref (q 0)].toArray below meth c H locs 0 0 Q (F0 m 200 ls []) := by
                    intro n78
                    induction n78 using Nat.strongRecOn with
                    | ind n78 ih77 =>
                      intro z72 z73 A75 H locs ls f79 f80 f81 f82 f83 f84 f85 f86 f87 f88 hn78 hI hj74 hP hS hl
                      have e_A19_4 : A19 0 4 = z1 := by rw [hA19]; rfl
                      have e_A49_4 : A49 0 4 = z1 := (hj48.2 4 rfl).trans e_A19_4
                      have e_A51_4 : A51 0 4 = z1 := by rw [hA51]; exact e_A49_4
                      have e_A65_4 : A65 0 4 = z1 := by rw [hA65]; exact e_A51_4
                      have e_A75_4 : A75 0 4 = z1 := (hj74.2 4 rfl).trans e_A65_4
                      have r_A75_0_7 : (-9223372036854775808 : Int) ≤ (A75 0 7) ∧ (A75 0 7) ≤ 9223372036854775807 := hI 0 7
                      have r_A75_0_8 : (0 : Int) ≤ (A75 0 8) ∧ (A75 0 8) ≤ 5 := hI 0 8
                      refine lv_iload_n hx hb dX12_ahead_200 rfl (lv_at hl 4 rfl) ?_
                      refine lv_aload_n hx hb dX12_ahead_201 rfl (lv_at hl 5 rfl) ?_
                      have e_A19_2 : A19 0 2 = (A 0 2) := by rw [hA19]; exact rfl
                      have e_A49_2 : A49 0 2 = (A 0 2) := (hj48.2 2 rfl).trans e_A19_2
                      have e_A51_2 : A51 0 2 = (A 0 2) := by rw [hA51]; exact e_A49_2
                      have e_A65_2 : A65 0 2 = (A 0 2) := by rw [hA65]; exact e_A51_2
                      have e_A75_2 : A75 0 2 = (A 0 2) := (hj74.2 2 rfl).trans e_A65_2
                      refine va_get (D := (dC, dI)) (ci := 12) (v := .int (iI (A75 0 2))) (C := RX12) (T := TX12) (N := 85) hx hb hts hiX12 hown hK hP 0 wm0 rfl 2 (by decide) (hts _ (List.mem_cons_of_mem _ (wl_in_0 _ (List.mem_of_getElem? (i := 22) rfl)))) (fun _ h9 => h9) rfl dX12_ahead_202 ?_
                      refine tp_i (y := iI (A 0 2)) (congrArg iI e_A75_2) ?_
                      refine lv_icmp_ge (tgt := 323) hx hb dX12_ahead_205 (by decide) (fun c89 => ?_) (fun c89 => ?_)
                      · have c89 : (A 0 2) ≤ z73 := (i_le (rb r_A_0_2 (by decide) (by decide)) (rb f82 (by decide) (by decide))).mp c89
                        refine lv_aload_n hx hb dX12_ahead_323 rfl (lv_at hl 5 rfl) ?_
                        refine lv_iload_n hx hb dX12_ahead_324 rfl (lv_at hl 4 rfl) ?_
                        refine x_put (D := (dC, dI)) (ci := 12) (v := .int (iI z73)) (ty := .int) (C := RX12) (T := TX12) (N := 85) hx hb hts hiX12 tyX12 tyX12_ok nmX12 hown hK hP hDD hS 0 wm0 rfl 5 (by decide) (hts _ (List.mem_cons_of_mem _ (wl_in_0 _ (List.mem_of_getElem? (i := 21) rfl)))) (fun _ h9 => h9) rfl (by decide +kernel) rfl rfl (Nat.le_of_ble_eq_true rfl) dX12_ahead_325 (wf5 (v := z73)) (fun H locs hP hS => ?_)
                        have hI := hI.st (j := 0) (i := 5) (v := z73) (show (0 : Int) ≤ z73 ∧ z73 ≤ 1600 from (by omega))
                        obtain ⟨A90, hA90⟩ : ∃ A90 : St, A90 = (stA A75 0 5 z73) := ⟨_, rfl⟩
                        rw [← hA90] at hP hI
                        have e_A65_3 : A65 0 3 = z61 := by rw [hA65]; rfl
                        have e_A75_3 : A75 0 3 = z61 := (hj74.2 3 rfl).trans e_A65_3
                        have e_A90_3 : A90 0 3 = z61 := by rw [hA90]; exact e_A75_3
                        have e_A90_4 : A90 0 4 = z1 := by rw [hA90]; exact e_A75_4
                        have e_A90_5 : A90 0 5 = z73 := by rw [hA90]; rfl
                        have e_A90_7 : A90 0 7 = (A75 0 7) := by rw [hA90]; exact rfl
                        have e_A90_8 : A90 0 8 = (A75 0 8) := by rw [hA90]; exact rfl
                        have a_A49_1 : A49 1 = A 1 := (hj48.1 1 (by decide) rfl).trans a_A19_1
                        have a_A51_1 : A51 1 = A 1 := by rw [hA51]; exact a_A49_1
                        have a_A65_1 : A65 1 = A 1 := by rw [hA65]; exact a_A51_1
                        have a_A75_1 : A75 1 = A 1 := (hj74.1 1 (by decide) rfl).trans a_A65_1
                        have a_A90_1 : A90 1 = A 1 := by rw [hA90]; exact a_A75_1
                        have hpost : A 0 5 ≤ A90 0 4 ∧ A90 0 4 ≤ A90 0 5 ∧ LX A90 ∧ (A90 0 8 = 0 → A 0 8 = 0) ∧ (A90 0 8 = 0 → A90 0 3 = 1 → 1 ≤ A90 0 4 → (A 1 (A90 0 4 - 1).toNat < 97 ∨ 122 < A 1 (A90 0 4 - 1).toNat)) := by
                          rcases (show z20 = 0 ∨ z20 = 1 by omega) with hl | hl
                          · have g1 := f64.out
                            have gs : z61 = 2 := by omega
                            clear g1
                            have g2 := f87.out hl
                            have gn : 1 ≤ z72 := by omega
                            clear g2
                            have g8 : A90 0 8 = 0 → A 0 8 = 0 ∧ (z20 = 1 → 1 ≤ z1 → (A 1 (z1 - 1).toNat < 97 ∨ 122 < A 1 (z1 - 1).toNat)) := fun h0 => by
                              have h9 := f85.out (by omega)
                              have h10 := f50.out (by omega)
                              exact h10
                            have hLX : LX A90 := LX.mk' (A := A) (s := z61) (a := z1) (e := z73) (w := (A75 0 7)) a_A90_1 e_A90_3 e_A90_4 e_A90_5 e_A90_7 (by omega) (by intro h; omega) (by intro h h'; omega)
                            refine ⟨by omega, by omega, hLX, fun h0 => (g8 h0).1, ?_⟩
                            rw [e_A90_4]
                            intro h0 h1 h2
                            exact (g8 h0).2 (by omega) h2
                          · have g1 := f64.out
                            have gs : z61 = 1 := by omega
                            clear g1
                            have g2 := f86.out hl
                            have gn : 1 ≤ z72 := by omega
                            have g3 := f88.out hl
                            have gl : 97 ≤ A 1 (z73 - 1).toNat ∧ A 1 (z73 - 1).toNat ≤ 122 := by omega
                            clear g2
                            have g8 : A90 0 8 = 0 → A 0 8 = 0 ∧ (z20 = 1 → 1 ≤ z1 → (A 1 (z1 - 1).toNat < 97 ∨ 122 < A 1 (z1 - 1).toNat)) := fun h0 => by
                              have h9 := f85.out (by omega)
                              have h10 := f50.out (by omega)
                              exact h10
                            have hLX : LX A90 := LX.mk' (A := A) (s := z61) (a := z1) (e := z73) (w := (A75 0 7)) a_A90_1 e_A90_3 e_A90_4 e_A90_5 e_A90_7 (by omega) (by intro h; exact gl) (by intro h h'; omega)
                            refine ⟨by omega, by omega, hLX, fun h0 => (g8 h0).1, ?_⟩
                            rw [e_A90_4]
                            intro h0 h1 h2
                            exact (g8 h0).2 (by omega) h2
                        exact RET _ _ _ _ _ ⟨hI, fr_def hA90 (fr.sf (fr.trans (fr_def hA65 (fr.sf (fr_def hA51 (fr.sf (fr.sf (fr.sf (fr.sf (fr.trans (fr_def hA19 (fr.sf (fr.sf (fr.sf (fr.rf) rfl) rfl) rfl)) hj48 rfl rfl) rfl) rfl) rfl) rfl)) rfl)) hj74 rfl rfl) rfl), hpost⟩ hP hS dX12_ahead_328
                      · have c89 : ¬ (A 0 2) ≤ z73 := mt (i_le (rb r_A_0_2 (by decide) (by decide)) (rb f82 (by decide) (by decide))).mpr c89
                        refine lv_iload_n hx hb dX12_ahead_208 rfl (lv_at hl 3 rfl) ?_
                        have J239_92 : ∀ (H : Heap) (locs : List Loc) (ls : Array Slot), (Hd (z20 = 1 → 97 ≤ A 1 z73.toNat ∧ A 1 z73.toNat ≤ 122)) → va_P (dC, dI) vwCl (WM cI cJ cZ q A75) H → va_S AS s.heap H locs → lv_has ls 6 [(5, .int (iI z72)), (4, .int (iI z68)), (3, .int (iI z24)), (2, .int (iI z20)), (1, .int (iI z73)), (0, .ref (q 0))] → W p l e (headSpec ws_mb_X12_ahead ({ frames := 1, cells := 0, slots := 0, locals := 22 } : Room)).room s m [.ref (q 0)].toArray below meth c H locs 0 0 Q (F0 m 239 ls []) := by
                          intro H locs ls f106 hP hS hl
                          refine lv_iload hx hb dX12_ahead_239 (lv_at hl 0 rfl) ?_
                          refine lv_iload hx hb dX12_ahead_241 (lv_at hl 1 rfl) ?_
                          have J252_108 : ∀ (A113 : St) (H : Heap) (locs : List Loc) (ls : Array Slot), (Hd ((A113 0 8) = 0 → A75 0 8 = 0)) → IM A113 → fr [] [8, 9] A75 A113 → va_P (dC, dI) vwCl (WM cI cJ cZ q A113) H → va_S AS s.heap H locs → lv_has ls 6 [(5, .int (iI z72)), (4, .int (iI z68)), (3, .int (iI z24)), (2, .int (iI z20)), (1, .int (iI z73)), (0, .ref (q 0))] → W p l e (headSpec ws_mb_X12_ahead ({ frames := 1, cells := 0, slots := 0, locals := 22 } : Room)).room s m [.ref (q 0)].toArray below meth c H locs 0 0 Q (F0 m 252 ls []) := by
                            intro A113 H locs ls f114 hI hj112 hP hS hl
                            refine lv_iload hx hb dX12_ahead_252 (lv_at hl 0 rfl) ?_
                            refine lv_iload hx hb dX12_ahead_254 (lv_at hl 1 rfl) ?_
                            have J282_116 : ∀ (A122 : St) (H : Heap) (locs : List Loc) (ls : Array Slot), (Hd (z20 = 1 → ((z72 = 0 → 0 ≤ (A122 0 7) ∧ (A122 0 7) ≤ 255) ∧ (z72 ≤ 1 → 0 ≤ (A122 0 7) ∧ (A122 0 7) ≤ 65535)))) → IM A122 → fr [] [7] A113 A122 → va_P (dC, dI) vwCl (WM cI cJ cZ q A122) H → va_S AS s.heap H locs → lv_has ls 6 [(5, .int (iI z72)), (4, .int (iI z68)), (3, .int (iI z24)), (2, .int (iI z20)), (1, .int (iI z73)), (0, .ref (q 0))] → W p l e (headSpec ws_mb_X12_ahead ({ frames := 1, cells := 0, slots := 0, locals := 22 } : Room)).room s m [.ref (q 0)].toArray below meth c H locs 0 0 Q (F0 m 282 ls []) := by
                              intro A122 H locs ls f123 hI hj121 hP hS hl
                              refine lv_iload hx hb dX12_ahead_282 (lv_at hl 0 rfl) ?_
                              refine lv_iload hx hb dX12_ahead_284 (lv_at hl 1 rfl) ?_
                              have J314_125 : ∀ (A132 : St) (H : Heap) (locs : List Loc) (ls : Array Slot), IM A132 → fr [] [6] A122 A132 → va_P (dC, dI) vwCl (WM cI cJ cZ q A132) H → va_S AS s.heap H locs → lv_has ls 6 [(5, .int (iI z72)), (4, .int (iI z68)), (3, .int (iI z24)), (2, .int (iI z20)), (1, .int (iI z73)), (0, .ref (q 0))] → W p l e (headSpec ws_mb_X12_ahead ({ frames := 1, cells := 0, slots := 0, locals := 22 } : Room)).room s m [.ref (q 0)].toArray below meth c H locs 0 0 Q (F0 m 314 ls []) := by
                                intro A132 H locs ls hI hj131 hP hS hl
                                refine lv_iinc (v := iI (z72 + 1)) (lv' := [(5, .int (iI (z72 + 1))), (4, .int (iI z68)), (3, .int (iI z24)), (2, .int (iI z20)), (1, .int (iI z73)), (0, .ref (q 0))]) hx hb dX12_ahead_314 hl (k := 0) rfl (i_inc (by omega)) (by decide) rfl (fun ls hl => ?_)
                                refine lv_iinc (v := iI (z73 + 1)) (lv' := [(1, .int (iI (z73 + 1))), (5, .int (iI (z72 + 1))), (4, .int (iI z68)), (3, .int (iI z24)), (2, .int (iI z20)), (0, .ref (q 0))]) hx hb dX12_ahead_317 hl (k := 4) rfl (i_inc (by omega)) (by decide) rfl (fun ls hl => ?_)
                                refine lv_goto (tgt := 200) hx hb dX12_ahead_320 (by decide) ?_
                                have e_A113_4 : A113 0 4 = z1 := (hj112.2 4 rfl).trans e_A75_4
                                have e_A122_4 : A122 0 4 = z1 := (hj121.2 4 rfl).trans e_A113_4
                                have e_A132_4 : A132 0 4 = z1 := (hj131.2 4 rfl).trans e_A122_4
                                have e_A132_7 : A132 0 7 = (A122 0 7) := (hj131.2 7 rfl)
                                have r_A122_0_7 : (-9223372036854775808 : Int) ≤ (A122 0 7) ∧ (A122 0 7) ≤ 9223372036854775807 := by rw [← e_A132_7]; exact hI 0 7
                                have e_A122_8 : A122 0 8 = (A113 0 8) := (hj121.2 8 rfl)
                                have e_A132_8 : A132 0 8 = (A113 0 8) := (hj131.2 8 rfl).trans e_A122_8
                                have r_A113_0_8 : (0 : Int) ≤ (A113 0 8) ∧ (A113 0 8) ≤ 5 := by rw [← e_A132_8]; exact hI 0 8
                                exact ih77 _ (by omega) (z72 + 1) (z73 + 1) _ _ _ _ (by omega) (by omega) (by omega) (by omega) (by omega) (by omega) (by exact Hd.mk (by have g0 := f85.out; have g1 := f114.out;  omega)) (by exact Hd.mk (by simp only [Int.add_sub_cancel]; have g := f106.out; omega)) (by exact Hd.mk (by have g0 := hw26.out; have g1 := f58.out;  omega)) (by exact Hd.mk (by have g0 := f123.out;  omega)) rfl hI (fr.trans (fr.trans (fr.trans (fr.trans (fr.rf) hj74 rfl rfl) hj112 rfl rfl) hj121 rfl rfl) hj131 rfl rfl) hP hS (lv_sub hl [1, 2, 3, 4, 0, 5] rfl)
                              refine lv_icmp_ge (tgt := 314) hx hb dX12_ahead_286 (by decide) (fun c124 => ?_) (fun c124 => ?_)
                              · have c124 : z68 ≤ z72 := (i_le (rb f70 (by decide) (by decide)) (rb f80 (by decide) (by decide))).mp c124
                                exact J314_125 _ _ _ _ hI (fr.rf) hP hS (lv_sub hl [0, 1, 2, 3, 4, 5] rfl)
                              · have c124 : ¬ z68 ≤ z72 := mt (i_le (rb f70 (by decide) (by decide)) (rb f80 (by decide) (by decide))).mpr c124
                                refine lv_iload_n hx hb dX12_ahead_289 rfl (lv_at hl 2 rfl) ?_
                                refine lv_if_eq (tgt := 314) hx hb dX12_ahead_290 (by decide) (fun c126 => ?_) (fun c126 => ?_)
                                · have c126 : z24 = 0 := (i_eq0 (rb rz24 (by decide) (by decide))).mp c126
                                  exact J314_125 _ _ _ _ hI (fr.rf) hP hS (lv_sub hl [0, 1, 2, 3, 4, 5] rfl)
                                · have c126 : ¬ z24 = 0 := mt (i_eq0 (rb rz24 (by decide) (by decide))).mpr c126
                                  refine lv_aload_n hx hb dX12_ahead_293 rfl (lv_at hl 5 rfl) ?_
                                  refine lv_bipush (v := iI 10) hx hb dX12_ahead_294 (by decide +kernel) ?_
                                  refine lv_aload_n hx hb dX12_ahead_296 rfl (lv_at hl 5 rfl) ?_
                                  have e_A113_6 : A113 0 6 = (A75 0 6) := (hj112.2 6 rfl)
                                  have e_A122_6 : A122 0 6 = (A75 0 6) := (hj121.2 6 rfl).trans e_A113_6
                                  refine va_get (D := (dC, dI)) (ci := 12) (v := .int (iI (A122 0 6))) (C := RX12) (T := TX12) (N := 85) hx hb hts hiX12 hown hK hP 0 wm0 rfl 6 (by decide) (hts _ (List.mem_cons_of_mem _ (wl_in_0 _ (List.mem_of_getElem? (i := 25) rfl)))) (fun _ h9 => h9) rfl dX12_ahead_297 ?_
                                  refine tp_i (y := iI (A75 0 6)) (congrArg iI e_A122_6) ?_
                                  have r_A75_0_6 : (-2147483648 : Int) ≤ (A75 0 6) ∧ (A75 0 6) ≤ 2147483647 := by rw [← e_A122_6]; exact hI 0 6
                                  refine x_mulv (v := 10 * (A75 0 6)) hx hb dX12_ahead_300 (by omega) ?_
                                  refine x_abs (fun z127 hz127 => ?_)
                                  refine lv_aload_n hx hb dX12_ahead_301 rfl (lv_at hl 5 rfl) ?_
                                  refine va_get (D := (dC, dI)) (ci := 12) (v := .ref (q 1)) (C := RX12) (T := TX12) (N := 85) hx hb hts hiX12 hown hK hP 0 wm0 rfl 0 (by decide) (hts _ (List.mem_cons_of_mem _ (wl_in_0 _ (List.mem_of_getElem? (i := 2) rfl)))) (fun _ h9 => h9) rfl dX12_ahead_302 ?_
                                  refine lv_iload_n hx hb dX12_ahead_305 rfl (lv_at hl 4 rfl) ?_
                                  have a_A49_1 : A49 1 = A 1 := (hj48.1 1 (by decide) rfl).trans a_A19_1
                                  have a_A51_1 : A51 1 = A 1 := by rw [hA51]; exact a_A49_1
                                  have a_A65_1 : A65 1 = A 1 := by rw [hA65]; exact a_A51_1
                                  have a_A75_1 : A75 1 = A 1 := (hj74.1 1 (by decide) rfl).trans a_A65_1
                                  have a_A113_1 : A113 1 = A 1 := (hj112.1 1 (by decide) rfl).trans a_A75_1
                                  have a_A122_1 : A122 1 = A 1 := (hj121.1 1 (by decide) rfl).trans a_A113_1
                                  refine x_iald hx hb hK hP 1 1 wm1 rfl (by omega) (by decide) dX12_ahead_306 (fun z128 hz128 => ?_)
                                  have rz128 : (0 : Int) ≤ z128 ∧ z128 ≤ 255 := by rw [hz128]; exact hI 1 _
                                  have hz128 : z128 = A 1 (z73).toNat := hz128.trans (congrFun a_A122_1 _)
                                  refine x_addv (v := z127 + z128) hx hb dX12_ahead_307 (by omega) ?_
                                  refine x_abs (fun z129 hz129 => ?_)
                                  refine lv_bipush (v := iI 48) hx hb dX12_ahead_308 (by decide +kernel) ?_
                                  refine x_subv (v := z129 - 48) hx hb dX12_ahead_310 (by omega) ?_
                                  refine x_abs (fun z130 hz130 => ?_)
                                  refine x_put (D := (dC, dI)) (ci := 12) (v := .int (iI z130)) (ty := .int) (C := RX12) (T := TX12) (N := 85) hx hb hts hiX12 tyX12 tyX12_ok nmX12 hown hK hP hDD hS 0 wm0 rfl 6 (by decide) (hts _ (List.mem_cons_of_mem _ (wl_in_0 _ (List.mem_of_getElem? (i := 25) rfl)))) (fun _ h9 => h9) rfl (by decide +kernel) rfl rfl (Nat.le_of_ble_eq_true rfl) dX12_ahead_311 (wf6 (v := z130)) (fun H locs hP hS => ?_)
                                  have hI := hI.st (j := 0) (i := 6) (v := z130) (show (-2147483648 : Int) ≤ z130 ∧ z130 ≤ 2147483647 from (by omega))
                                  exact J314_125 _ _ _ _ hI (fr.sf (fr.rf) rfl) hP hS (lv_sub hl [0, 1, 2, 3, 4, 5] rfl)
                            refine lv_icmp_ge (tgt := 282) hx hb dX12_ahead_256 (by decide) (fun c115 => ?_) (fun c115 => ?_)
                            · have c115 : z68 ≤ z72 := (i_le (rb f70 (by decide) (by decide)) (rb f80 (by decide) (by decide))).mp c115
                              have e_A113_7 : A113 0 7 = (A75 0 7) := (hj112.2 7 rfl)
                              exact J282_116 _ _ _ _ (by exact Hd.mk (by have g0 := f88.out; have g1 := f71.out;  omega)) hI (fr.rf) hP hS (lv_sub hl [0, 1, 2, 3, 4, 5] rfl)
                            · have c115 : ¬ z68 ≤ z72 := mt (i_le (rb f70 (by decide) (by decide)) (rb f80 (by decide) (by decide))).mpr c115
                              refine lv_iload_n hx hb dX12_ahead_259 rfl (lv_at hl 3 rfl) ?_
                              refine lv_if_eq (tgt := 282) hx hb dX12_ahead_260 (by decide) (fun c117 => ?_) (fun c117 => ?_)
                              · have c117 : z20 = 0 := (i_eq0 (rb rz20 (by decide) (by decide))).mp c117
                                have e_A113_7 : A113 0 7 = (A75 0 7) := (hj112.2 7 rfl)
                                exact J282_116 _ _ _ _ (by exact Hd.mk (by have g0 := f88.out; have g1 := f71.out;  omega)) hI (fr.rf) hP hS (lv_sub hl [0, 1, 2, 3, 4, 5] rfl)
                              · have c117 : ¬ z20 = 0 := mt (i_eq0 (rb rz20 (by decide) (by decide))).mpr c117
                                refine lv_aload_n hx hb dX12_ahead_263 rfl (lv_at hl 5 rfl) ?_
                                refine lv_aload_n hx hb dX12_ahead_264 rfl (lv_at hl 5 rfl) ?_
                                have e_A113_7 : A113 0 7 = (A75 0 7) := (hj112.2 7 rfl)
                                refine va_get (D := (dC, dI)) (ci := 12) (v := .long (jI (A113 0 7))) (C := RX12) (T := TX12) (N := 85) hx hb hts hiX12 hown hK hP 0 wm0 rfl 7 (by decide) (hts _ (List.mem_cons_of_mem _ (wl_in_0 _ (List.mem_of_getElem? (i := 26) rfl)))) (fun _ h9 => h9) rfl dX12_ahead_265 ?_
                                refine tp_l (y := jI (A75 0 7)) (congrArg jI e_A113_7) ?_
                                refine lv_bipush (v := iI 8) hx hb dX12_ahead_268 (by decide +kernel) ?_
                                refine x_lshl8 hx hb dX12_ahead_270 (fun z118 hz118 hz118b => ?_)
                                replace hz118b := Hd.mk hz118b
                                refine lv_aload_n hx hb dX12_ahead_271 rfl (lv_at hl 5 rfl) ?_
                                refine va_get (D := (dC, dI)) (ci := 12) (v := .ref (q 1)) (C := RX12) (T := TX12) (N := 85) hx hb hts hiX12 hown hK hP 0 wm0 rfl 0 (by decide) (hts _ (List.mem_cons_of_mem _ (wl_in_0 _ (List.mem_of_getElem? (i := 2) rfl)))) (fun _ h9 => h9) rfl dX12_ahead_272 ?_
                                refine lv_iload_n hx hb dX12_ahead_275 rfl (lv_at hl 4 rfl) ?_
                                have a_A49_1 : A49 1 = A 1 := (hj48.1 1 (by decide) rfl).trans a_A19_1
                                have a_A51_1 : A51 1 = A 1 := by rw [hA51]; exact a_A49_1
                                have a_A65_1 : A65 1 = A 1 := by rw [hA65]; exact a_A51_1
                                have a_A75_1 : A75 1 = A 1 := (hj74.1 1 (by decide) rfl).trans a_A65_1
                                have a_A113_1 : A113 1 = A 1 := (hj112.1 1 (by decide) rfl).trans a_A75_1
                                refine x_iald hx hb hK hP 1 1 wm1 rfl (by omega) (by decide) dX12_ahead_276 (fun z119 hz119 => ?_)
                                have rz119 : (0 : Int) ≤ z119 ∧ z119 ≤ 255 := by rw [hz119]; exact hI 1 _
                                have hz119 : z119 = A 1 (z73).toNat := hz119.trans (congrFun a_A113_1 _)
                                refine lv_i2l (v := jI z119) hx hb dX12_ahead_277 (i2l_v (rb rz119 (by decide) (by decide))) ?_
                                refine x_lor hx hb dX12_ahead_278 (fun z120 hz120 hz120b hz120c => ?_)
                                replace hz120b := Hd.mk hz120b
                                replace hz120c := Hd.mk hz120c
                                refine x_put (D := (dC, dI)) (ci := 12) (v := .long (jI z120)) (ty := .long) (C := RX12) (T := TX12) (N := 85) hx hb hts hiX12 tyX12 tyX12_ok nmX12 hown hK hP hDD hS 0 wm0 rfl 7 (by decide) (hts _ (List.mem_cons_of_mem _ (wl_in_0 _ (List.mem_of_getElem? (i := 26) rfl)))) (fun _ h9 => h9) rfl (by decide +kernel) rfl rfl (Nat.le_of_ble_eq_true rfl) dX12_ahead_279 (wf7 (v := z120)) (fun H locs hP hS => ?_)
                                have hI := hI.st (j := 0) (i := 7) (v := z120) (show (-9223372036854775808 : Int) ≤ z120 ∧ z120 ≤ 9223372036854775807 from (by omega))
                                obtain ⟨A133, hA133⟩ : ∃ A133 : St, A133 = (stA A113 0 7 z120) := ⟨_, rfl⟩
                                rw [← hA133] at hP hI
                                have e_A133_7 : A133 0 7 = z120 := by rw [hA133]; rfl
                                exact J282_116 _ _ _ _ (by exact Hd.mk (by have g0 := f88.out; have g1 := f71.out; have g2 := hz118b.out; have g3 := hz120b.out; have g4 := hz120c.out;  omega)) hI (fr_def hA133 (fr.sf (fr.rf) rfl)) hP hS (lv_sub hl [0, 1, 2, 3, 4, 5] rfl)
                          refine lv_icmp_ne (tgt := 252) hx hb dX12_ahead_243 (by decide) (fun c107 => ?_) (fun c107 => ?_)
                          · have c107 : ¬ z72 = z68 := mt (i_eq (rb f80 (by decide) (by decide)) (rb f70 (by decide) (by decide))).mpr c107
                            exact J252_108 _ _ _ _ (by exact Hd.mk (by  omega)) hI (fr.rf) hP hS (lv_sub hl [0, 1, 2, 3, 4, 5] rfl)
                          · have c107 : z72 = z68 := (i_eq (rb f80 (by decide) (by decide)) (rb f70 (by decide) (by decide))).mp c107
                            refine lv_aload_n hx hb dX12_ahead_246 rfl (lv_at hl 5 rfl) ?_
                            refine lv_iconst (v := iI 1) hx hb dX12_ahead_247 (by decide +kernel) ?_
                            refine lv_iload_n hx hb dX12_ahead_248 rfl (lv_at hl 4 rfl) ?_
                            refine x_callv (As := [.int (iI 1), .int (iI z73)]) (rest := []) ⟨hx, hb, hml, hown, hts⟩ (mc_X12_blame l dC dI cB cI cJ cZ cQ q _ 1 z73 hI ⟨by decide, by decide⟩ f82) (cwV 2 hts (goodV (wl_in_0 _ (List.mem_of_getElem? (i := 31) rfl)) (wl_in_0 _ (List.mem_of_getElem? (i := 32) rfl)) (wl_in_0 _ (List.mem_of_getElem? (i := 33) rfl)) (wl_in_0 _ (List.mem_of_getElem? (i := 8) rfl)) (wl_in_0 _ (List.mem_of_getElem? (i := 15) rfl))) rfl rfl rfl (by decide +kernel) ⟨Nat.le_of_ble_eq_true rfl, Nat.le_of_ble_eq_true rfl⟩) hK hDD hA0 hP hS 0 12 wm0 rfl rfl hl.1 (Nat.le_of_ble_eq_true rfl) dX12_ahead_249 (fun A109 H locs hw110 hP hS => ?_)
                            obtain ⟨hI, hf111, hw110⟩ := hw110
                            have r_A109_0_8 : (0 : Int) ≤ (A109 0 8) ∧ (A109 0 8) ≤ 5 := hI 0 8
                            exact J252_108 _ _ _ _ (by exact Hd.mk (by  omega)) hI (fr.trans (fr.rf) hf111 rfl rfl) hP hS (lv_sub hl [0, 1, 2, 3, 4, 5] rfl)
                        refine lv_if_eq (tgt := 227) hx hb dX12_ahead_209 (by decide) (fun c91 => ?_) (fun c91 => ?_)
                        · have c91 : z20 = 0 := (i_eq0 (rb rz20 (by decide) (by decide))).mp c91
                          refine lv_aload_n hx hb dX12_ahead_227 rfl (lv_at hl 5 rfl) ?_
                          refine va_get (D := (dC, dI)) (ci := 12) (v := .ref (q 1)) (C := RX12) (T := TX12) (N := 85) hx hb hts hiX12 hown hK hP 0 wm0 rfl 0 (by decide) (hts _ (List.mem_cons_of_mem _ (wl_in_0 _ (List.mem_of_getElem? (i := 2) rfl)))) (fun _ h9 => h9) rfl dX12_ahead_228 ?_
                          refine lv_iload_n hx hb dX12_ahead_231 rfl (lv_at hl 4 rfl) ?_
                          have a_A49_1 : A49 1 = A 1 := (hj48.1 1 (by decide) rfl).trans a_A19_1
                          have a_A51_1 : A51 1 = A 1 := by rw [hA51]; exact a_A49_1
                          have a_A65_1 : A65 1 = A 1 := by rw [hA65]; exact a_A51_1
                          have a_A75_1 : A75 1 = A 1 := (hj74.1 1 (by decide) rfl).trans a_A65_1
                          refine x_iald hx hb hK hP 1 1 wm1 rfl (by omega) (by decide) dX12_ahead_232 (fun z93 hz93 => ?_)
                          have rz93 : (0 : Int) ≤ z93 ∧ z93 ≤ 255 := by rw [hz93]; exact hI 1 _
                          have hz93 : z93 = A 1 (z73).toNat := hz93.trans (congrFun a_A75_1 _)
                          refine x_callSi (As := [.int (iI z93)]) (rest := []) ⟨hx, hb, hml, hown, hts⟩ (mc_X12_isDigit l dC dI cB cI cJ cZ cQ q _ z93 hI (rb rz93 (by decide) (by decide))) (va_cwS 1 hts (goodS (wl_in_0 _ (List.mem_of_getElem? (i := 29) rfl)) (wl_in_0 _ (List.mem_of_getElem? (i := 30) rfl)) (wl_in_0 _ (List.mem_of_getElem? (i := 8) rfl)) (wl_in_0 _ (List.mem_of_getElem? (i := 19) rfl))) rfl rfl rfl (by decide +kernel) ⟨Nat.le_of_ble_eq_true rfl, Nat.le_of_ble_eq_true rfl⟩) hK hDD hA0 hP hS rfl hl.1 (Nat.le_of_ble_eq_true rfl) dX12_ahead_233 (fun z94 A95 H locs hw96 hP hS => ?_)
                          obtain ⟨rfl, hw96⟩ := hw96
                          have rz94 : 0 ≤ z94 ∧ z94 ≤ 1 := hw96.1
                          replace hw96 := Hd.mk hw96.2
                          refine lv_if_eq (tgt := 323) hx hb dX12_ahead_236 (by decide) (fun c97 => ?_) (fun c97 => ?_)
                          · have c97 : z94 = 0 := (i_eq0 (rb rz94 (by decide) (by decide))).mp c97
                            refine lv_aload_n hx hb dX12_ahead_323 rfl (lv_at hl 5 rfl) ?_
                            refine lv_iload_n hx hb dX12_ahead_324 rfl (lv_at hl 4 rfl) ?_
                            refine x_put (D := (dC, dI)) (ci := 12) (v := .int (iI z73)) (ty := .int) (C := RX12) (T := TX12) (N := 85) hx hb hts hiX12 tyX12 tyX12_ok nmX12 hown hK hP hDD hS 0 wm0 rfl 5 (by decide) (hts _ (List.mem_cons_of_mem _ (wl_in_0 _ (List.mem_of_getElem? (i := 21) rfl)))) (fun _ h9 => h9) rfl (by decide +kernel) rfl rfl (Nat.le_of_ble_eq_true rfl) dX12_ahead_325 (wf5 (v := z73)) (fun H locs hP hS => ?_)
                            have hI := hI.st (j := 0) (i := 5) (v := z73) (show (0 : Int) ≤ z73 ∧ z73 ≤ 1600 from (by omega))
                            obtain ⟨A98, hA98⟩ : ∃ A98 : St, A98 = (stA A75 0 5 z73) := ⟨_, rfl⟩
                            rw [← hA98] at hP hI
                            have e_A65_3 : A65 0 3 = z61 := by rw [hA65]; rfl
                            have e_A75_3 : A75 0 3 = z61 := (hj74.2 3 rfl).trans e_A65_3
                            have e_A98_3 : A98 0 3 = z61 := by rw [hA98]; exact e_A75_3
                            have e_A98_4 : A98 0 4 = z1 := by rw [hA98]; exact e_A75_4
                            have e_A98_5 : A98 0 5 = z73 := by rw [hA98]; rfl
                            have e_A98_7 : A98 0 7 = (A75 0 7) := by rw [hA98]; exact rfl
                            have e_A98_8 : A98 0 8 = (A75 0 8) := by rw [hA98]; exact rfl
                            have a_A98_1 : A98 1 = A 1 := by rw [hA98]; exact a_A75_1
                            have hpost : A 0 5 ≤ A98 0 4 ∧ A98 0 4 ≤ A98 0 5 ∧ LX A98 ∧ (A98 0 8 = 0 → A 0 8 = 0) ∧ (A98 0 8 = 0 → A98 0 3 = 1 → 1 ≤ A98 0 4 → (A 1 (A98 0 4 - 1).toNat < 97 ∨ 122 < A 1 (A98 0 4 - 1).toNat)) := by
                              rcases (show z20 = 0 ∨ z20 = 1 by omega) with hl | hl
                              · have g1 := f64.out
                                have gs : z61 = 2 := by omega
                                clear g1
                                have g2 := f87.out hl
                                have gx2 := hw96.out
                                have gn : 1 ≤ z72 := by omega
                                clear g2 gx2
                                have g8 : A98 0 8 = 0 → A 0 8 = 0 ∧ (z20 = 1 → 1 ≤ z1 → (A 1 (z1 - 1).toNat < 97 ∨ 122 < A 1 (z1 - 1).toNat)) := fun h0 => by
                                  have h9 := f85.out (by omega)
                                  have h10 := f50.out (by omega)
                                  exact h10
                                have hLX : LX A98 := LX.mk' (A := A) (s := z61) (a := z1) (e := z73) (w := (A75 0 7)) a_A98_1 e_A98_3 e_A98_4 e_A98_5 e_A98_7 (by omega) (by intro h; omega) (by intro h h'; omega)
                                refine ⟨by omega, by omega, hLX, fun h0 => (g8 h0).1, ?_⟩
                                rw [e_A98_4]
                                intro h0 h1 h2
                                exact (g8 h0).2 (by omega) h2
                              · have g1 := f64.out
                                have gs : z61 = 1 := by omega
                                clear g1
                                have g2 := f86.out hl
                                have gx2 := hw96.out
                                have gn : 1 ≤ z72 := by omega
                                have g3 := f88.out hl
                                have gl : 97 ≤ A 1 (z73 - 1).toNat ∧ A 1 (z73 - 1).toNat ≤ 122 := by omega
                                clear g2 gx2
                                have g8 : A98 0 8 = 0 → A 0 8 = 0 ∧ (z20 = 1 → 1 ≤ z1 → (A 1 (z1 - 1).toNat < 97 ∨ 122 < A 1 (z1 - 1).toNat)) := fun h0 => by
                                  have h9 := f85.out (by omega)
                                  have h10 := f50.out (by omega)
                                  exact h10
                                have hLX : LX A98 := LX.mk' (A := A) (s := z61) (a := z1) (e := z73) (w := (A75 0 7)) a_A98_1 e_A98_3 e_A98_4 e_A98_5 e_A98_7 (by omega) (by intro h; exact gl) (by intro h h'; omega)
                                refine ⟨by omega, by omega, hLX, fun h0 => (g8 h0).1, ?_⟩
                                rw [e_A98_4]
                                intro h0 h1 h2
                                exact (g8 h0).2 (by omega) h2
                            exact RET _ _ _ _ _ ⟨hI, fr_def hA98 (fr.sf (fr.trans (fr_def hA65 (fr.sf (fr_def hA51 (fr.sf (fr.sf (fr.sf (fr.sf (fr.trans (fr_def hA19 (fr.sf (fr.sf (fr.sf (fr.rf) rfl) rfl) rfl)) hj48 rfl rfl) rfl) rfl) rfl) rfl)) rfl)) hj74 rfl rfl) rfl), hpost⟩ hP hS dX12_ahead_328
                          · have c97 : ¬ z94 = 0 := mt (i_eq0 (rb rz94 (by decide) (by decide))).mpr c97
                            exact J239_92 _ _ _ (by exact Hd.mk (by  omega)) hP hS (lv_sub hl [0, 1, 2, 3, 4, 5] rfl)
                        · have c91 : ¬ z20 = 0 := mt (i_eq0 (rb rz20 (by decide) (by decide))).mpr c91
                          refine lv_aload_n hx hb dX12_ahead_212 rfl (lv_at hl 5 rfl) ?_
                          refine va_get (D := (dC, dI)) (ci := 12) (v := .ref (q 1)) (C := RX12) (T := TX12) (N := 85) hx hb hts hiX12 hown hK hP 0 wm0 rfl 0 (by decide) (hts _ (List.mem_cons_of_mem _ (wl_in_0 _ (List.mem_of_getElem? (i := 2) rfl)))) (fun _ h9 => h9) rfl dX12_ahead_213 ?_
                          refine lv_iload_n hx hb dX12_ahead_216 rfl (lv_at hl 4 rfl) ?_
                          have a_A49_1 : A49 1 = A 1 := (hj48.1 1 (by decide) rfl).trans a_A19_1
                          have a_A51_1 : A51 1 = A 1 := by rw [hA51]; exact a_A49_1
                          have a_A65_1 : A65 1 = A 1 := by rw [hA65]; exact a_A51_1
                          have a_A75_1 : A75 1 = A 1 := (hj74.1 1 (by decide) rfl).trans a_A65_1
                          refine x_iald hx hb hK hP 1 1 wm1 rfl (by omega) (by decide) dX12_ahead_217 (fun z99 hz99 => ?_)
                          have rz99 : (0 : Int) ≤ z99 ∧ z99 ≤ 255 := by rw [hz99]; exact hI 1 _
                          have hz99 : z99 = A 1 (z73).toNat := hz99.trans (congrFun a_A75_1 _)
                          refine x_callSi (As := [.int (iI z99)]) (rest := []) ⟨hx, hb, hml, hown, hts⟩ (mc_X12_isLetter l dC dI cB cI cJ cZ cQ q _ z99 hI (rb rz99 (by decide) (by decide))) (va_cwS 1 hts (goodS (wl_in_0 _ (List.mem_of_getElem? (i := 27) rfl)) (wl_in_0 _ (List.mem_of_getElem? (i := 28) rfl)) (wl_in_0 _ (List.mem_of_getElem? (i := 8) rfl)) (wl_in_0 _ (List.mem_of_getElem? (i := 18) rfl))) rfl rfl rfl (by decide +kernel) ⟨Nat.le_of_ble_eq_true rfl, Nat.le_of_ble_eq_true rfl⟩) hK hDD hA0 hP hS rfl hl.1 (Nat.le_of_ble_eq_true rfl) dX12_ahead_218 (fun z100 A101 H locs hw102 hP hS => ?_)
                          obtain ⟨rfl, hw102⟩ := hw102
                          have rz100 : 0 ≤ z100 ∧ z100 ≤ 1 := hw102.1
                          replace hw102 := Hd.mk hw102.2
                          refine lv_if_eq (tgt := 323) hx hb dX12_ahead_221 (by decide) (fun c103 => ?_) (fun c103 => ?_)
                          · have c103 : z100 = 0 := (i_eq0 (rb rz100 (by decide) (by decide))).mp c103
                            refine lv_aload_n hx hb dX12_ahead_323 rfl (lv_at hl 5 rfl) ?_
                            refine lv_iload_n hx hb dX12_ahead_324 rfl (lv_at hl 4 rfl) ?_
                            refine x_put (D := (dC, dI)) (ci := 12) (v := .int (iI z73)) (ty := .int) (C := RX12) (T := TX12) (N := 85) hx hb hts hiX12 tyX12 tyX12_ok nmX12 hown hK hP hDD hS 0 wm0 rfl 5 (by decide) (hts _ (List.mem_cons_of_mem _ (wl_in_0 _ (List.mem_of_getElem? (i := 21) rfl)))) (fun _ h9 => h9) rfl (by decide +kernel) rfl rfl (Nat.le_of_ble_eq_true rfl) dX12_ahead_325 (wf5 (v := z73)) (fun H locs hP hS => ?_)
                            have hI := hI.st (j := 0) (i := 5) (v := z73) (show (0 : Int) ≤ z73 ∧ z73 ≤ 1600 from (by omega))
                            obtain ⟨A104, hA104⟩ : ∃ A104 : St, A104 = (stA A75 0 5 z73) := ⟨_, rfl⟩
                            rw [← hA104] at hP hI
                            have e_A65_3 : A65 0 3 = z61 := by rw [hA65]; rfl
                            have e_A75_3 : A75 0 3 = z61 := (hj74.2 3 rfl).trans e_A65_3
                            have e_A104_3 : A104 0 3 = z61 := by rw [hA104]; exact e_A75_3
                            have e_A104_4 : A104 0 4 = z1 := by rw [hA104]; exact e_A75_4
                            have e_A104_5 : A104 0 5 = z73 := by rw [hA104]; rfl
                            have e_A104_7 : A104 0 7 = (A75 0 7) := by rw [hA104]; exact rfl
                            have e_A104_8 : A104 0 8 = (A75 0 8) := by rw [hA104]; exact rfl
                            have a_A104_1 : A104 1 = A 1 := by rw [hA104]; exact a_A75_1
                            have hpost : A 0 5 ≤ A104 0 4 ∧ A104 0 4 ≤ A104 0 5 ∧ LX A104 ∧ (A104 0 8 = 0 → A 0 8 = 0) ∧ (A104 0 8 = 0 → A104 0 3 = 1 → 1 ≤ A104 0 4 → (A 1 (A104 0 4 - 1).toNat < 97 ∨ 122 < A 1 (A104 0 4 - 1).toNat)) := by
                              rcases (show z20 = 0 ∨ z20 = 1 by omega) with hl | hl
                              · have g1 := f64.out
                                have gs : z61 = 2 := by omega
                                clear g1
                                have g2 := f87.out hl
                                have gx1 := hw102.out
                                have gn : 1 ≤ z72 := by omega
                                clear g2 gx1
                                have g8 : A104 0 8 = 0 → A 0 8 = 0 ∧ (z20 = 1 → 1 ≤ z1 → (A 1 (z1 - 1).toNat < 97 ∨ 122 < A 1 (z1 - 1).toNat)) := fun h0 => by
                                  have h9 := f85.out (by omega)
                                  have h10 := f50.out (by omega)
                                  exact h10
                                have hLX : LX A104 := LX.mk' (A := A) (s := z61) (a := z1) (e := z73) (w := (A75 0 7)) a_A104_1 e_A104_3 e_A104_4 e_A104_5 e_A104_7 (by omega) (by intro h; omega) (by intro h h'; omega)
                                refine ⟨by omega, by omega, hLX, fun h0 => (g8 h0).1, ?_⟩
                                rw [e_A104_4]
                                intro h0 h1 h2
                                exact (g8 h0).2 (by omega) h2
                              · have g1 := f64.out
                                have gs : z61 = 1 := by omega
                                clear g1
                                have g2 := f86.out hl
                                have gx1 := hw102.out
                                have gn : 1 ≤ z72 := by omega
                                have g3 := f88.out hl
                                have gl : 97 ≤ A 1 (z73 - 1).toNat ∧ A 1 (z73 - 1).toNat ≤ 122 := by omega
                                clear g2 gx1
                                have g8 : A104 0 8 = 0 → A 0 8 = 0 ∧ (z20 = 1 → 1 ≤ z1 → (A 1 (z1 - 1).toNat < 97 ∨ 122 < A 1 (z1 - 1).toNat)) := fun h0 => by
                                  have h9 := f85.out (by omega)
                                  have h10 := f50.out (by omega)
                                  exact h10
                                have hLX : LX A104 := LX.mk' (A := A) (s := z61) (a := z1) (e := z73) (w := (A75 0 7)) a_A104_1 e_A104_3 e_A104_4 e_A104_5 e_A104_7 (by omega) (by intro h; exact gl) (by intro h h'; omega)
                                refine ⟨by omega, by omega, hLX, fun h0 => (g8 h0).1, ?_⟩
                                rw [e_A104_4]
                                intro h0 h1 h2
                                exact (g8 h0).2 (by omega) h2
                            exact RET _ _ _ _ _ ⟨hI, fr_def hA104 (fr.sf (fr.trans (fr_def hA65 (fr.sf (fr_def hA51 (fr.sf (fr.sf (fr.sf (fr.sf (fr.trans (fr_def hA19 (fr.sf (fr.sf (fr.sf (fr.rf) rfl) rfl) rfl)) hj48 rfl rfl) rfl) rfl) rfl) rfl)) rfl)) hj74 rfl rfl) rfl), hpost⟩ hP hS dX12_ahead_328
                          · have c103 : ¬ z100 = 0 := mt (i_eq0 (rb rz100 (by decide) (by decide))).mpr c103
                            refine lv_goto (tgt := 239) hx hb dX12_ahead_224 (by decide) ?_
                            exact J239_92 _ _ _ (by exact Hd.mk (by have g0 := hw102.out;  omega)) hP hS (lv_sub hl [0, 1, 2, 3, 4, 5] rfl)
                  exact L200_76 _ 0 z1 _ _ _ _ (by omega) (by omega) (by omega) (by omega) (by omega) (by omega) (by exact Hd.mk (by  omega)) (by exact Hd.mk (by have g := hw22.out; omega)) (by exact Hd.mk (by have g0 := hw26.out; have g1 := f58.out;  omega)) (by exact Hd.mk (by  omega)) rfl hI (fr.rf) hP hS (lv_sub hl [0, 1, 2, 3, 4, 5] rfl)
                refine lv_if_eq (tgt := 194) hx hb dX12_ahead_186 (by decide) (fun c66 => ?_) (fun c66 => ?_)
                · have c66 : z20 = 0 := (i_eq0 (rb rz20 (by decide) (by decide))).mp c66
                  refine lv_iconst (v := iI 4) hx hb dX12_ahead_194 (by decide +kernel) ?_
                  exact J195_67 4 _ _ _ (by omega) (by exact Hd.mk (by  omega)) hP hS (lv_sub hl [0, 1, 2, 3] rfl)
                · have c66 : ¬ z20 = 0 := mt (i_eq0 (rb rz20 (by decide) (by decide))).mpr c66
                  refine lv_bipush (v := iI 6) hx hb dX12_ahead_189 (by decide +kernel) ?_
                  refine lv_goto (tgt := 195) hx hb dX12_ahead_191 (by decide) ?_
                  exact J195_67 6 _ _ _ (by omega) (by exact Hd.mk (by  omega)) hP hS (lv_sub hl [0, 1, 2, 3] rfl)
              refine lv_if_eq (tgt := 181) hx hb dX12_ahead_174 (by decide) (fun c59 => ?_) (fun c59 => ?_)
              · have c59 : z20 = 0 := (i_eq0 (rb rz20 (by decide) (by decide))).mp c59
                refine lv_iconst (v := iI 2) hx hb dX12_ahead_181 (by decide +kernel) ?_
                exact J182_60 2 _ _ _ (by omega) (by exact Hd.mk (by  omega)) hP hS (lv_sub hl [0, 1, 2, 3] rfl)
              · have c59 : ¬ z20 = 0 := mt (i_eq0 (rb rz20 (by decide) (by decide))).mpr c59
                refine lv_iconst (v := iI 1) hx hb dX12_ahead_177 (by decide +kernel) ?_
                refine lv_goto (tgt := 182) hx hb dX12_ahead_178 (by decide) ?_
                exact J182_60 1 _ _ _ (by omega) (by exact Hd.mk (by  omega)) hP hS (lv_sub hl [0, 1, 2, 3] rfl)
            refine lv_if_ne (tgt := 172) hx hb dX12_ahead_154 (by decide) (fun c52 => ?_) (fun c52 => ?_)
            · have c52 : ¬ z20 = 0 := mt (i_eq0 (rb rz20 (by decide) (by decide))).mpr c52
              exact J172_53 _ _ _ (by exact Hd.mk (by  omega)) hP hS (lv_sub hl [0, 1, 2, 3] rfl)
            · have c52 : z20 = 0 := (i_eq0 (rb rz20 (by decide) (by decide))).mp c52
              refine lv_iload_n hx hb dX12_ahead_157 rfl (lv_at hl 0 rfl) ?_
              refine lv_if_ne (tgt := 172) hx hb dX12_ahead_158 (by decide) (fun c54 => ?_) (fun c54 => ?_)
              · have c54 : ¬ z24 = 0 := mt (i_eq0 (rb rz24 (by decide) (by decide))).mpr c54
                exact J172_53 _ _ _ (by exact Hd.mk (by  omega)) hP hS (lv_sub hl [0, 1, 2, 3] rfl)
              · have c54 : z24 = 0 := (i_eq0 (rb rz24 (by decide) (by decide))).mp c54
                refine lv_aload_n hx hb dX12_ahead_161 rfl (lv_at hl 3 rfl) ?_
                refine lv_aload_n hx hb dX12_ahead_162 rfl (lv_at hl 3 rfl) ?_
                refine va_get (D := (dC, dI)) (ci := 12) (v := .ref (q 1)) (C := RX12) (T := TX12) (N := 85) hx hb hts hiX12 hown hK hP 0 wm0 rfl 0 (by decide) (hts _ (List.mem_cons_of_mem _ (wl_in_0 _ (List.mem_of_getElem? (i := 2) rfl)))) (fun _ h9 => h9) rfl dX12_ahead_163 ?_
                refine lv_iload_n hx hb dX12_ahead_166 rfl (lv_at hl 2 rfl) ?_
                have a_A49_1 : A49 1 = A 1 := (hj48.1 1 (by decide) rfl).trans a_A19_1
                have a_A51_1 : A51 1 = A 1 := by rw [hA51]; exact a_A49_1
                refine x_iald hx hb hK hP 1 1 wm1 rfl (by omega) (by decide) dX12_ahead_167 (fun z55 hz55 => ?_)
                have rz55 : (0 : Int) ≤ z55 ∧ z55 ≤ 255 := by rw [hz55]; exact hI 1 _
                have hz55 : z55 = A 1 (z1).toNat := hz55.trans (congrFun a_A51_1 _)
                have ez55 : z55 = z18 := hz55.trans hz18.symm
                refine x_put (D := (dC, dI)) (ci := 12) (v := .int (iI z55)) (ty := .int) (C := RX12) (T := TX12) (N := 85) hx hb hts hiX12 tyX12 tyX12_ok nmX12 hown hK hP hDD hS 0 wm0 rfl 6 (by decide) (hts _ (List.mem_cons_of_mem _ (wl_in_0 _ (List.mem_of_getElem? (i := 25) rfl)))) (fun _ h9 => h9) rfl (by decide +kernel) rfl rfl (Nat.le_of_ble_eq_true rfl) dX12_ahead_168 (wf6 (v := z55)) (fun H locs hP hS => ?_)
                have hI := hI.st (j := 0) (i := 6) (v := z55) (show (-2147483648 : Int) ≤ z55 ∧ z55 ≤ 2147483647 from (by omega))
                obtain ⟨A56, hA56⟩ : ∃ A56 : St, A56 = (stA A51 0 6 z55) := ⟨_, rfl⟩
                rw [← hA56] at hP hI
                have e_A51_3 : A51 0 3 = 3 := by rw [hA51]; rfl
                have e_A56_3 : A56 0 3 = 3 := by rw [hA56]; exact e_A51_3
                have e_A19_4 : A19 0 4 = z1 := by rw [hA19]; rfl
                have e_A49_4 : A49 0 4 = z1 := (hj48.2 4 rfl).trans e_A19_4
                have e_A51_4 : A51 0 4 = z1 := by rw [hA51]; exact e_A49_4
                have e_A56_4 : A56 0 4 = z1 := by rw [hA56]; exact e_A51_4
                have e_A51_5 : A51 0 5 = z1 + 1 := by rw [hA51]; rfl
                have e_A56_5 : A56 0 5 = z1 + 1 := by rw [hA56]; exact e_A51_5
                have e_A51_7 : A51 0 7 = 0 := by rw [hA51]; rfl
                have e_A56_7 : A56 0 7 = 0 := by rw [hA56]; exact e_A51_7
                have e_A51_8 : A51 0 8 = (A49 0 8) := by rw [hA51]; exact rfl
                have e_A56_8 : A56 0 8 = (A49 0 8) := by rw [hA56]; exact e_A51_8
                have r_A49_0_8 : (0 : Int) ≤ (A49 0 8) ∧ (A49 0 8) ≤ 5 := by rw [← e_A56_8]; exact hI 0 8
                have a_A56_1 : A56 1 = A 1 := by rw [hA56]; exact a_A51_1
                have hpost : A 0 5 ≤ A56 0 4 ∧ A56 0 4 ≤ A56 0 5 ∧ LX A56 ∧ (A56 0 8 = 0 → A 0 8 = 0) ∧ (A56 0 8 = 0 → A56 0 3 = 1 → 1 ≤ A56 0 4 → (A 1 (A56 0 4 - 1).toNat < 97 ∨ 122 < A 1 (A56 0 4 - 1).toNat)) := by
                  have hLX : LX A56 := LX.mk' (A := A) (s := 3) (a := z1) (e := z1 + 1) (w := 0) a_A56_1 e_A56_3 e_A56_4 e_A56_5 e_A56_7 (by omega) (by intro h; omega) (by intro h h'; omega)
                  exact ⟨by omega, by omega, hLX, fun h0 => (f50.out (by omega)).1, fun _ h1 => absurd h1 (by omega)⟩
                exact RET _ _ _ _ _ ⟨hI, fr_def hA56 (fr.sf (fr_def hA51 (fr.sf (fr.sf (fr.sf (fr.sf (fr.trans (fr_def hA19 (fr.sf (fr.sf (fr.sf (fr.rf) rfl) rfl) rfl)) hj48 rfl rfl) rfl) rfl) rfl) rfl)) rfl), hpost⟩ hP hS dX12_ahead_171
          have J93_28 : ∀ (H : Heap) (locs : List Loc) (ls : Array Slot), va_P (dC, dI) vwCl (WM cI cJ cZ q A19) H → va_S AS s.heap H locs → lv_has ls 6 [(3, .int (iI z24)), (2, .int (iI z20)), (1, .int (iI z1)), (0, .ref (q 0))] → W p l e (headSpec ws_mb_X12_ahead ({ frames := 1, cells := 0, slots := 0, locals := 22 } : Room)).room s m [.ref (q 0)].toArray below meth c H locs 0 0 Q (F0 m 93 ls []) := by
            intro H locs ls hP hS hl
            refine lv_iload_n hx hb dX12_ahead_93 rfl (lv_at hl 2 rfl) ?_
            refine lv_if_le (tgt := 131) hx hb dX12_ahead_94 (by decide) (fun c32 => ?_) (fun c32 => ?_)
            · have c32 : z1 ≤ 0 := (i_le0 (rb f7 (by decide) (by decide))).mp c32
              have e_A19_8 : A19 0 8 = (A 0 8) := by rw [hA19]; exact rfl
              have r_A_0_8 : (0 : Int) ≤ (A 0 8) ∧ (A 0 8) ≤ 5 := by rw [← e_A19_8]; exact hI 0 8
              exact J131_29 _ _ _ _ (by exact Hd.mk (by  omega)) hI (fr.rf) hP hS (lv_sub hl [0, 1, 2, 3] rfl)
            · have c32 : ¬ z1 ≤ 0 := mt (i_le0 (rb f7 (by decide) (by decide))).mpr c32
              refine lv_aload_n hx hb dX12_ahead_97 rfl (lv_at hl 3 rfl) ?_
              refine va_get (D := (dC, dI)) (ci := 12) (v := .ref (q 1)) (C := RX12) (T := TX12) (N := 85) hx hb hts hiX12 hown hK hP 0 wm0 rfl 0 (by decide) (hts _ (List.mem_cons_of_mem _ (wl_in_0 _ (List.mem_of_getElem? (i := 2) rfl)))) (fun _ h9 => h9) rfl dX12_ahead_98 ?_
              refine lv_iload_n hx hb dX12_ahead_101 rfl (lv_at hl 2 rfl) ?_
              refine lv_iconst (v := iI 1) hx hb dX12_ahead_102 (by decide +kernel) ?_
              refine x_subv (v := z1 - 1) hx hb dX12_ahead_103 (by omega) ?_
              refine x_iald hx hb hK hP 1 1 wm1 rfl (by omega) (by decide) dX12_ahead_104 (fun z33 hz33 => ?_)
              have rz33 : (0 : Int) ≤ z33 ∧ z33 ≤ 255 := by rw [hz33]; exact hI 1 _
              have hz33 : z33 = A 1 (z1 - 1).toNat := hz33.trans (congrFun a_A19_1 _)
              refine x_callSi (As := [.int (iI z33)]) (rest := []) ⟨hx, hb, hml, hown, hts⟩ (mc_X12_isLetter l dC dI cB cI cJ cZ cQ q _ z33 hI (rb rz33 (by decide) (by decide))) (va_cwS 1 hts (goodS (wl_in_0 _ (List.mem_of_getElem? (i := 27) rfl)) (wl_in_0 _ (List.mem_of_getElem? (i := 28) rfl)) (wl_in_0 _ (List.mem_of_getElem? (i := 8) rfl)) (wl_in_0 _ (List.mem_of_getElem? (i := 18) rfl))) rfl rfl rfl (by decide +kernel) ⟨Nat.le_of_ble_eq_true rfl, Nat.le_of_ble_eq_true rfl⟩) hK hDD hA0 hP hS rfl hl.1 (Nat.le_of_ble_eq_true rfl) dX12_ahead_105 (fun z34 A35 H locs hw36 hP hS => ?_)
              obtain ⟨rfl, hw36⟩ := hw36
              have rz34 : 0 ≤ z34 ∧ z34 ≤ 1 := hw36.1
              replace hw36 := Hd.mk hw36.2
              have J125_38 : ∀ (H : Heap) (locs : List Loc) (ls : Array Slot), va_P (dC, dI) vwCl (WM cI cJ cZ q A19) H → va_S AS s.heap H locs → lv_has ls 6 [(3, .int (iI z24)), (2, .int (iI z20)), (1, .int (iI z1)), (0, .ref (q 0))] → W p l e (headSpec ws_mb_X12_ahead ({ frames := 1, cells := 0, slots := 0, locals := 22 } : Room)).room s m [.ref (q 0)].toArray below meth c H locs 0 0 Q (F0 m 125 ls []) := by
                intro H locs ls hP hS hl
                refine lv_aload_n hx hb dX12_ahead_125 rfl (lv_at hl 3 rfl) ?_
                refine lv_iconst (v := iI 1) hx hb dX12_ahead_126 (by decide +kernel) ?_
                refine lv_iload_n hx hb dX12_ahead_127 rfl (lv_at hl 2 rfl) ?_
                refine x_callv (As := [.int (iI 1), .int (iI z1)]) (rest := []) ⟨hx, hb, hml, hown, hts⟩ (mc_X12_blame l dC dI cB cI cJ cZ cQ q _ 1 z1 hI ⟨by decide, by decide⟩ f7) (cwV 2 hts (goodV (wl_in_0 _ (List.mem_of_getElem? (i := 31) rfl)) (wl_in_0 _ (List.mem_of_getElem? (i := 32) rfl)) (wl_in_0 _ (List.mem_of_getElem? (i := 33) rfl)) (wl_in_0 _ (List.mem_of_getElem? (i := 8) rfl)) (wl_in_0 _ (List.mem_of_getElem? (i := 15) rfl))) rfl rfl rfl (by decide +kernel) ⟨Nat.le_of_ble_eq_true rfl, Nat.le_of_ble_eq_true rfl⟩) hK hDD hA0 hP hS 0 12 wm0 rfl rfl hl.1 (Nat.le_of_ble_eq_true rfl) dX12_ahead_128 (fun A45 H locs hw46 hP hS => ?_)
                obtain ⟨hI, hf47, hw46⟩ := hw46
                have r_A45_0_8 : (0 : Int) ≤ (A45 0 8) ∧ (A45 0 8) ≤ 5 := hI 0 8
                exact J131_29 _ _ _ _ (by exact Hd.mk (by have g0 := hw36.out;  omega)) hI (fr.trans (fr.rf) hf47 rfl rfl) hP hS (lv_sub hl [0, 1, 2, 3] rfl)
              refine lv_if_ne (tgt := 125) hx hb dX12_ahead_108 (by decide) (fun c37 => ?_) (fun c37 => ?_)
              · have c37 : ¬ z34 = 0 := mt (i_eq0 (rb rz34 (by decide) (by decide))).mpr c37
                exact J125_38 _ _ _ hP hS (lv_sub hl [0, 1, 2, 3] rfl)
              · have c37 : z34 = 0 := (i_eq0 (rb rz34 (by decide) (by decide))).mp c37
                refine lv_aload_n hx hb dX12_ahead_111 rfl (lv_at hl 3 rfl) ?_
                refine va_get (D := (dC, dI)) (ci := 12) (v := .ref (q 1)) (C := RX12) (T := TX12) (N := 85) hx hb hts hiX12 hown hK hP 0 wm0 rfl 0 (by decide) (hts _ (List.mem_cons_of_mem _ (wl_in_0 _ (List.mem_of_getElem? (i := 2) rfl)))) (fun _ h9 => h9) rfl dX12_ahead_112 ?_
                refine lv_iload_n hx hb dX12_ahead_115 rfl (lv_at hl 2 rfl) ?_
                refine lv_iconst (v := iI 1) hx hb dX12_ahead_116 (by decide +kernel) ?_
                refine x_subv (v := z1 - 1) hx hb dX12_ahead_117 (by omega) ?_
                refine x_iald hx hb hK hP 1 1 wm1 rfl (by omega) (by decide) dX12_ahead_118 (fun z39 hz39 => ?_)
                have rz39 : (0 : Int) ≤ z39 ∧ z39 ≤ 255 := by rw [hz39]; exact hI 1 _
                have hz39 : z39 = A 1 (z1 - 1).toNat := hz39.trans (congrFun a_A19_1 _)
                have ez39 : z39 = z33 := hz39.trans hz33.symm
                refine x_callSi (As := [.int (iI z39)]) (rest := []) ⟨hx, hb, hml, hown, hts⟩ (mc_X12_isDigit l dC dI cB cI cJ cZ cQ q _ z39 hI (rb rz39 (by decide) (by decide))) (va_cwS 1 hts (goodS (wl_in_0 _ (List.mem_of_getElem? (i := 29) rfl)) (wl_in_0 _ (List.mem_of_getElem? (i := 30) rfl)) (wl_in_0 _ (List.mem_of_getElem? (i := 8) rfl)) (wl_in_0 _ (List.mem_of_getElem? (i := 19) rfl))) rfl rfl rfl (by decide +kernel) ⟨Nat.le_of_ble_eq_true rfl, Nat.le_of_ble_eq_true rfl⟩) hK hDD hA0 hP hS rfl hl.1 (Nat.le_of_ble_eq_true rfl) dX12_ahead_119 (fun z40 A41 H locs hw42 hP hS => ?_)
                obtain ⟨rfl, hw42⟩ := hw42
                have rz40 : 0 ≤ z40 ∧ z40 ≤ 1 := hw42.1
                replace hw42 := Hd.mk hw42.2
                refine lv_if_eq (tgt := 131) hx hb dX12_ahead_122 (by decide) (fun c43 => ?_) (fun c43 => ?_)
                · have c43 : z40 = 0 := (i_eq0 (rb rz40 (by decide) (by decide))).mp c43
                  have e_A19_8 : A19 0 8 = (A 0 8) := by rw [hA19]; exact rfl
                  have r_A_0_8 : (0 : Int) ≤ (A 0 8) ∧ (A 0 8) ≤ 5 := by rw [← e_A19_8]; exact hI 0 8
                  exact J131_29 _ _ _ _ (by exact Hd.mk (by have g0 := hw36.out;  omega)) hI (fr.rf) hP hS (lv_sub hl [0, 1, 2, 3] rfl)
                · have c43 : ¬ z40 = 0 := mt (i_eq0 (rb rz40 (by decide) (by decide))).mpr c43
                  exact J125_38 _ _ _ hP hS (lv_sub hl [0, 1, 2, 3] rfl)
          refine lv_if_ne (tgt := 93) hx hb dX12_ahead_86 (by decide) (fun c27 => ?_) (fun c27 => ?_)
          · have c27 : ¬ z20 = 0 := mt (i_eq0 (rb rz20 (by decide) (by decide))).mpr c27
            exact J93_28 _ _ _ hP hS (lv_sub hl [0, 1, 2, 3] rfl)
          · have c27 : z20 = 0 := (i_eq0 (rb rz20 (by decide) (by decide))).mp c27
            refine lv_iload_n hx hb dX12_ahead_89 rfl (lv_at hl 0 rfl) ?_
            refine lv_if_eq (tgt := 131) hx hb dX12_ahead_90 (by decide) (fun c30 => ?_) (fun c30 => ?_)
            · have c30 : z24 = 0 := (i_eq0 (rb rz24 (by decide) (by decide))).mp c30
              have e_A19_8 : A19 0 8 = (A 0 8) := by rw [hA19]; exact rfl
              have r_A_0_8 : (0 : Int) ≤ (A 0 8) ∧ (A 0 8) ≤ 5 := by rw [← e_A19_8]; exact hI 0 8
              exact J131_29 _ _ _ _ (by exact Hd.mk (by  omega)) hI (fr.rf) hP hS (lv_sub hl [0, 1, 2, 3] rfl)
            · have c30 : ¬ z24 = 0 := mt (i_eq0 (rb rz24 (by decide) (by decide))).mpr c30
              exact J93_28 _ _ _ hP hS (lv_sub hl [0, 1, 2, 3] rfl)
        · have c17 : ¬ z1 < (A 0 2) := mt (i_lt (rb f7 (by decide) (by decide)) (rb r_A_0_2 (by decide) (by decide))).mpr c17
          obtain ⟨A134, hA134⟩ : ∃ A134 : St, A134 = (stA (stA (stA A 0 4 z1) 0 5 z1) 0 3 0) := ⟨_, rfl⟩
          rw [← hA134] at hP hI
          have e_A134_3 : A134 0 3 = 0 := by rw [hA134]; rfl
          have e_A134_4 : A134 0 4 = z1 := by rw [hA134]; rfl
          have e_A134_5 : A134 0 5 = z1 := by rw [hA134]; rfl
          have e_A134_7 : A134 0 7 = (A 0 7) := by rw [hA134]; exact rfl
          have r_A_0_7 : (-9223372036854775808 : Int) ≤ (A 0 7) ∧ (A 0 7) ≤ 9223372036854775807 := by rw [← e_A134_7]; exact hI 0 7
          have e_A134_8 : A134 0 8 = (A 0 8) := by rw [hA134]; exact rfl
          have r_A_0_8 : (0 : Int) ≤ (A 0 8) ∧ (A 0 8) ≤ 5 := by rw [← e_A134_8]; exact hI 0 8
          have a_A134_1 : A134 1 = A 1 := by rw [hA134]; exact rfl
          have hpost : A 0 5 ≤ A134 0 4 ∧ A134 0 4 ≤ A134 0 5 ∧ LX A134 ∧ (A134 0 8 = 0 → A 0 8 = 0) ∧ (A134 0 8 = 0 → A134 0 3 = 1 → 1 ≤ A134 0 4 → (A 1 (A134 0 4 - 1).toNat < 97 ∨ 122 < A 1 (A134 0 4 - 1).toNat)) := by
            have hLX : LX A134 := LX.mk' (A := A) (s := 0) (a := z1) (e := z1) (w := (A 0 7)) a_A134_1 e_A134_3 e_A134_4 e_A134_5 e_A134_7 (by omega) (by intro h; omega) (by intro h h'; omega)
            exact ⟨by omega, by omega, hLX, by omega, fun _ h1 => absurd h1 (by omega)⟩
          exact RET _ _ _ _ _ ⟨hI, fr_def hA134 (fr.sf (fr.sf (fr.sf (fr.rf) rfl) rfl) rfl), hpost⟩ hP hS dX12_ahead_64
      refine lv_icmp_ge (tgt := 41) hx hb dX12_ahead_10 (by decide) (fun c8 => ?_) (fun c8 => ?_)
      · have c8 : (A 0 2) ≤ z1 := (i_le (rb r_A_0_2 (by decide) (by decide)) (rb f7 (by decide) (by decide))).mp c8
        exact J41_9 _ _ _ hP hS (lv_sub hl [0, 1] rfl)
      · have c8 : ¬ (A 0 2) ≤ z1 := mt (i_le (rb r_A_0_2 (by decide) (by decide)) (rb f7 (by decide) (by decide))).mpr c8
        refine lv_aload_n hx hb dX12_ahead_13 rfl (lv_at hl 1 rfl) ?_
        refine va_get (D := (dC, dI)) (ci := 12) (v := .ref (q 1)) (C := RX12) (T := TX12) (N := 85) hx hb hts hiX12 hown hK hP 0 wm0 rfl 0 (by decide) (hts _ (List.mem_cons_of_mem _ (wl_in_0 _ (List.mem_of_getElem? (i := 2) rfl)))) (fun _ h9 => h9) rfl dX12_ahead_14 ?_
        refine lv_iload_n hx hb dX12_ahead_17 rfl (lv_at hl 0 rfl) ?_
        refine x_iald hx hb hK hP 1 1 wm1 rfl (by omega) (by decide) dX12_ahead_18 (fun z10 hz10 => ?_)
        have rz10 : (0 : Int) ≤ z10 ∧ z10 ≤ 255 := by rw [hz10]; exact hI 1 _
        have hz10 : z10 = A 1 (z1).toNat := hz10
        refine lv_bipush (v := iI 32) hx hb dX12_ahead_19 (by decide +kernel) ?_
        have J35_12 : ∀ (H : Heap) (locs : List Loc) (ls : Array Slot), va_P (dC, dI) vwCl (WM cI cJ cZ q A) H → va_S AS s.heap H locs → lv_has ls 6 [(1, .int (iI z1)), (0, .ref (q 0))] → W p l e (headSpec ws_mb_X12_ahead ({ frames := 1, cells := 0, slots := 0, locals := 22 } : Room)).room s m [.ref (q 0)].toArray below meth c H locs 0 0 Q (F0 m 35 ls []) := by
          intro H locs ls hP hS hl
          refine lv_iinc (v := iI (z1 + 1)) (lv' := [(1, .int (iI (z1 + 1))), (0, .ref (q 0))]) hx hb dX12_ahead_35 hl (k := 0) rfl (i_inc (by omega)) (by decide) rfl (fun ls hl => ?_)
          refine lv_goto (tgt := 5) hx hb dX12_ahead_38 (by decide) ?_
          exact ih4 _ (by omega) (z1 + 1) _ _ _ (by omega) (by omega) rfl hP hS (lv_sub hl [0, 1] rfl)
        refine lv_icmp_eq (tgt := 35) hx hb dX12_ahead_21 (by decide) (fun c11 => ?_) (fun c11 => ?_)
        · have c11 : z10 = 32 := (i_eq (rb rz10 (by decide) (by decide)) ⟨by decide, by decide⟩).mp c11
          exact J35_12 _ _ _ hP hS (lv_sub hl [0, 1] rfl)
        · have c11 : ¬ z10 = 32 := mt (i_eq (rb rz10 (by decide) (by decide)) ⟨by decide, by decide⟩).mpr c11
          refine lv_aload_n hx hb dX12_ahead_24 rfl (lv_at hl 1 rfl) ?_
          refine va_get (D := (dC, dI)) (ci := 12) (v := .ref (q 1)) (C := RX12) (T := TX12) (N := 85) hx hb hts hiX12 hown hK hP 0 wm0 rfl 0 (by decide) (hts _ (List.mem_cons_of_mem _ (wl_in_0 _ (List.mem_of_getElem? (i := 2) rfl)))) (fun _ h9 => h9) rfl dX12_ahead_25 ?_
          refine lv_iload_n hx hb dX12_ahead_28 rfl (lv_at hl 0 rfl) ?_
          refine x_iald hx hb hK hP 1 1 wm1 rfl (by omega) (by decide) dX12_ahead_29 (fun z13 hz13 => ?_)
          have rz13 : (0 : Int) ≤ z13 ∧ z13 ≤ 255 := by rw [hz13]; exact hI 1 _
          have hz13 : z13 = A 1 (z1).toNat := hz13
          have ez13 : z13 = z10 := hz13.trans hz10.symm
          refine lv_bipush (v := iI 10) hx hb dX12_ahead_30 (by decide +kernel) ?_
          refine lv_icmp_ne (tgt := 41) hx hb dX12_ahead_32 (by decide) (fun c14 => ?_) (fun c14 => ?_)
          · have c14 : ¬ z13 = 10 := mt (i_eq (rb rz13 (by decide) (by decide)) ⟨by decide, by decide⟩).mpr c14
            exact J41_9 _ _ _ hP hS (lv_sub hl [0, 1] rfl)
          · have c14 : z13 = 10 := (i_eq (rb rz13 (by decide) (by decide)) ⟨by decide, by decide⟩).mp c14
            exact J35_12 _ _ _ hP hS (lv_sub hl [0, 1] rfl)
  exact L5_3 _ (A 0 5) _ _ _ (by omega) (by omega) rfl hP hS (lv_sub hl [0, 1] rfl)
