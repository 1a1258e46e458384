def ws_mb_X12_goesOn_ : List Cond := .code yX12_goesOn_ cX12_goesOn_ 5 none :: WX
set_option maxHeartbeats 4000000 in
set_option maxRecDepth 100000 in
theorem mb_X12_goesOn_ (l : Launch) (dC : Nat → ClassId) (dI : Nat → Nat → Nat) (cB cI cJ cZ cQ : ClassId) (q : Nat → Nat) (A : St) (x1 : Int) (hI : IM A) (hx1 : (0 : Int) ≤ x1 ∧ x1 ≤ 76831) (hp0 : 0 ≤ A 47 x1.toNat) (hp1 : A 47 x1.toNat + 1 ≤ A 0 66) (hcCI : CI A) (hcQI : QI A) : XMv l yX12_goesOn_ ws_mb_X12_goesOn_ ({ frames := 4, cells := 0, slots := 0, locals := 100 } : Room) (dC, dI) (tyA cB cI cJ cZ cQ) (WM cI cJ cZ q) A [.ref (q 0), .int (iI x1)] (fun u => IM u ∧ fr [42, 43, 47, 48, 49] [66, 67, 69] A u ∧ CI u ∧ QI u ∧ (A 0 66 ≤ u 0 66)) := by
  refine x_metv (cc := cX12_goesOn_) (maxL := 5) WM_adr (by decide +kernel) rfl (Nat.le_of_ble_eq_true rfl) (fun p e s m below meth c Q AS ls hx hb hml hown hts hK hDD hA0 hP hS hl RET => ?_)
  have hown : s.vm.findClass RX12 = some m.cls := hown
  have hl : lv_has ls 5 [(0, .ref (q 0)), (1, .int (iI x1))] := hl
  have hiX12 : ∀ w ∈ u_ws RX12 TX12 85, w ∈ ws_mb_X12_goesOn_ := fun w h => List.mem_cons_of_mem _ (wx_lay w h)
  obtain ⟨H, hHe⟩ : ∃ H : Heap, H = s.heap := ⟨_, rfl⟩
  rw [← hHe] at hP
  have hS : va_S AS s.heap H [] := by rw [hHe]; exact hS
  suffices hgo : ∀ locs : List Loc, va_S AS s.heap H locs → W p l e (headSpec ws_mb_X12_goesOn_ ({ frames := 4, cells := 0, slots := 0, locals := 100 } : Room)).room s m [.ref (q 0), .int (iI x1)].toArray below meth c H locs 0 0 Q (F0 m 0 ls []) by
    have := hgo [] hS
    rw [hHe] at this
    exact this
  clear hS hHe
  intro locs hS
  refine lv_aload_n hx hb dX12_goesOn__0 rfl (lv_at hl 0 rfl) ?_
  refine va_get (D := (dC, dI)) (ci := 12) (v := .ref (q 47)) (C := RX12) (T := TX12) (N := 85) hx hb hts hiX12 hown hK hP 0 wm0 rfl 64 (by decide) (hts _ (List.mem_cons_of_mem _ (wl_in_6 _ (List.mem_of_getElem? (i := 51) rfl)))) (fun _ h9 => h9) rfl dX12_goesOn__1 ?_
  refine lv_iload_n hx hb dX12_goesOn__4 rfl (lv_at hl 1 rfl) ?_
  refine x_iald hx hb hK hP 47 1 wm47 rfl (by omega) (by decide) dX12_goesOn__5 (fun z1 hz1 => ?_)
  have rz1 : (-1 : Int) ≤ z1 ∧ z1 ≤ 76832 := by rw [hz1]; exact hI 47 _
  have hz1 : z1 = A 47 (x1).toNat := hz1
  refine lv_iconst (v := iI 1) hx hb dX12_goesOn__6 (by decide +kernel) ?_
  refine x_addv (v := z1 + 1) hx hb dX12_goesOn__7 (by omega) ?_
  refine lv_istore_n (lv' := [(2, .int (iI (z1 + 1))), (0, .ref (q 0)), (1, .int (iI x1))]) hx hb dX12_goesOn__8 rfl hl (by decide) rfl (fun ls hl => ?_)
  refine lv_aload_n hx hb dX12_goesOn__9 rfl (lv_at hl 1 rfl) ?_
  refine lv_iload_n hx hb dX12_goesOn__10 rfl (lv_at hl 2 rfl) ?_
  refine x_callv (As := [.int (iI x1)]) (rest := []) ⟨hx, hb, hml, hown, hts⟩ (mc_X12_takes l dC dI cB cI cJ cZ cQ q _ x1 hI hx1) (cwV 1 hts (goodV (wl_in_7 _ (List.mem_of_getElem? (i := 11) rfl)) (wl_in_7 _ (List.mem_of_getElem? (i := 12) rfl)) (wl_in_7 _ (List.mem_of_getElem? (i := 13) rfl)) (wl_in_0 _ (List.mem_of_getElem? (i := 8) rfl)) (wl_in_6 _ (List.mem_of_getElem? (i := 41) rfl))) rfl rfl rfl (by decide +kernel) ⟨Nat.le_of_ble_eq_true rfl, Nat.le_of_ble_eq_true rfl⟩) hK hDD hA0 hP hS 0 12 wm0 rfl rfl hl.1 (Nat.le_of_ble_eq_true rfl) dX12_goesOn__11 (fun A2 H locs hw3 hP hS => ?_)
  obtain ⟨hI, hf4, hw3⟩ := hw3
  clear hw3
  refine lv_aload_n hx hb dX12_goesOn__14 rfl (lv_at hl 1 rfl) ?_
  refine x_calli (As := []) (rest := []) ⟨hx, hb, hml, hown, hts⟩ (mc_X12_closedNow l dC dI cB cI cJ cZ cQ q _ hI) (cwV 0 hts (goodV (wl_in_7 _ (List.mem_of_getElem? (i := 14) rfl)) (wl_in_7 _ (List.mem_of_getElem? (i := 15) rfl)) (wl_in_7 _ (List.mem_of_getElem? (i := 16) rfl)) (wl_in_0 _ (List.mem_of_getElem? (i := 8) rfl)) (wl_in_6 _ (List.mem_of_getElem? (i := 43) rfl))) rfl rfl rfl (by decide +kernel) ⟨Nat.le_of_ble_eq_true rfl, Nat.le_of_ble_eq_true rfl⟩) hK hDD hA0 hP hS 0 12 wm0 rfl rfl hl.1 (Nat.le_of_ble_eq_true rfl) dX12_goesOn__15 (fun z5 A6 H locs hw7 hP hS => ?_)
  obtain ⟨rfl, hw7⟩ := hw7
  refine lv_istore_n (lv' := [(3, .int (iI z5)), (2, .int (iI (z1 + 1))), (0, .ref (q 0)), (1, .int (iI x1))]) hx hb dX12_goesOn__18 rfl hl (by decide) rfl (fun ls hl => ?_)
  refine lv_iconst (v := iI 0) hx hb dX12_goesOn__19 (by decide +kernel) ?_
  refine lv_istore (lv' := [(4, .int (iI 0)), (3, .int (iI z5)), (2, .int (iI (z1 + 1))), (0, .ref (q 0)), (1, .int (iI x1))]) hx hb dX12_goesOn__20 hl (by decide) rfl (fun ls hl => ?_)
  have e_A2_66 : A2 0 66 = (A 0 66) := (hf4.2 66 rfl)
  have r_A_0_66 : (0 : Int) ≤ (A 0 66) ∧ (A 0 66) ≤ 76832 := by rw [← e_A2_66]; exact hI 0 66
  have L22_12 : ∀ (n14 : Nat) (z8 : Int) (A10 : St) (H : Heap) (locs : List Loc) (ls : Array Slot), (0 ≤ z8) → (0 ≤ z8 ∧ z8 ≤ 10) → (A 0 66 ≤ (A10 0 66)) → (QI A10) → ((A 4 ((A 0 12)).toNat - z8 + 1).toNat = n14) → IM A10 → fr [42, 43, 47, 48, 49] [66, 67, 69] A2 A10 → va_P (dC, dI) vwCl (WM cI cJ cZ q A10) H → va_S AS s.heap H locs → lv_has ls 5 [(4, .int (iI z8)), (3, .int (iI z5)), (2, .int (iI (z1 + 1))), (0, .ref (q 0)), (1, .int (iI x1))] → W p l e (headSpec ws_mb_X12_goesOn_ ({ frames := 4, cells := 0, slots := 0, locals := 100 } : Room)).room s m [.ref (q 0), .int (iI x1)].toArray below meth c H locs 0 0 Q (F0 m 22 ls []) := by
    intro n14
    induction n14 using Nat.strongRecOn with
    | ind n14 ih13 =>
      intro z8 A10 H locs ls f15 f16 f17 hc18 hn14 hI hj9 hP hS hl
      have r_A10_0_66 : (0 : Int) ≤ (A10 0 66) ∧ (A10 0 66) ≤ 76832 := hI 0 66
      refine lv_iload hx hb dX12_goesOn__22 (lv_at hl 0 rfl) ?_
      refine lv_aload_n hx hb dX12_goesOn__24 rfl (lv_at hl 3 rfl) ?_
      refine va_get (D := (dC, dI)) (ci := 12) (v := .ref (q 4)) (C := RX12) (T := TX12) (N := 85) hx hb hts hiX12 hown hK hP 0 wm0 rfl 15 (by decide) (hts _ (List.mem_cons_of_mem _ (wl_in_1 _ (List.mem_of_getElem? (i := 13) rfl)))) (fun _ h9 => h9) rfl dX12_goesOn__25 ?_
      refine lv_aload_n hx hb dX12_goesOn__28 rfl (lv_at hl 3 rfl) ?_
      have e_A2_12 : A2 0 12 = (A 0 12) := (hf4.2 12 rfl)
      have e_A10_12 : A10 0 12 = (A 0 12) := (hj9.2 12 rfl).trans e_A2_12
      refine va_get (D := (dC, dI)) (ci := 12) (v := .int (iI (A10 0 12))) (C := RX12) (T := TX12) (N := 85) hx hb hts hiX12 hown hK hP 0 wm0 rfl 12 (by decide) (hts _ (List.mem_cons_of_mem _ (wl_in_4 _ (List.mem_of_getElem? (i := 14) rfl)))) (fun _ h9 => h9) rfl dX12_goesOn__29 ?_
      refine tp_i (y := iI (A 0 12)) (congrArg iI e_A10_12) ?_
      have r_A_0_12 : (0 : Int) ≤ (A 0 12) ∧ (A 0 12) ≤ 1 := by rw [← e_A10_12]; exact hI 0 12
      have a_A2_4 : A2 4 = A 4 := (hf4.1 4 (by decide) rfl)
      have a_A10_4 : A10 4 = A 4 := (hj9.1 4 (by decide) rfl).trans a_A2_4
      refine x_iald hx hb hK hP 4 1 wm4 rfl (by omega) (by decide) dX12_goesOn__32 (fun z19 hz19 => ?_)
      have rz19 : (0 : Int) ≤ z19 ∧ z19 ≤ 10 := by rw [hz19]; exact hI 4 _
      have hz19 : z19 = A 4 ((A 0 12)).toNat := hz19.trans (congrFun a_A10_4 _)
      refine lv_icmp_ge (tgt := 130) hx hb dX12_goesOn__33 (by decide) (fun c20 => ?_) (fun c20 => ?_)
      · have c20 : z19 ≤ z8 := (i_le (rb rz19 (by decide) (by decide)) (rb f16 (by decide) (by decide))).mp c20
        refine lv_iconst (v := iI 0) hx hb dX12_goesOn__130 (by decide +kernel) ?_
        refine lv_istore (lv' := [(4, .int (iI 0)), (3, .int (iI z5)), (2, .int (iI (z1 + 1))), (0, .ref (q 0)), (1, .int (iI x1))]) hx hb dX12_goesOn__131 hl (by decide) rfl (fun ls hl => ?_)
        have L133_25 : ∀ (n27 : Nat) (z21 : Int) (A23 : St) (H : Heap) (locs : List Loc) (ls : Array Slot), (0 ≤ z21) → (0 ≤ z21 ∧ z21 ≤ 4) → (A 0 66 ≤ (A23 0 66)) → (QI A23) → ((A 11 ((A 0 12)).toNat - z21 + 1).toNat = n27) → IM A23 → fr [47, 48, 49] [66, 67, 69] A10 A23 → va_P (dC, dI) vwCl (WM cI cJ cZ q A23) H → va_S AS s.heap H locs → lv_has ls 5 [(4, .int (iI z21)), (3, .int (iI z5)), (2, .int (iI (z1 + 1))), (0, .ref (q 0)), (1, .int (iI x1))] → W p l e (headSpec ws_mb_X12_goesOn_ ({ frames := 4, cells := 0, slots := 0, locals := 100 } : Room)).room s m [.ref (q 0), .int (iI x1)].toArray below meth c H locs 0 0 Q (F0 m 133 ls []) := by
          intro n27
          induction n27 using Nat.strongRecOn with
          | ind n27 ih26 =>
            intro z21 A23 H locs ls f28 f29 f30 hc31 hn27 hI hj22 hP hS hl
            have r_A23_0_66 : (0 : Int) ≤ (A23 0 66) ∧ (A23 0 66) ≤ 76832 := hI 0 66
            refine lv_iload hx hb dX12_goesOn__133 (lv_at hl 0 rfl) ?_
            refine lv_aload_n hx hb dX12_goesOn__135 rfl (lv_at hl 3 rfl) ?_
            refine va_get (D := (dC, dI)) (ci := 12) (v := .ref (q 11)) (C := RX12) (T := TX12) (N := 85) hx hb hts hiX12 hown hK hP 0 wm0 rfl 22 (by decide) (hts _ (List.mem_cons_of_mem _ (wl_in_1 _ (List.mem_of_getElem? (i := 14) rfl)))) (fun _ h9 => h9) rfl dX12_goesOn__136 ?_
            refine lv_aload_n hx hb dX12_goesOn__139 rfl (lv_at hl 3 rfl) ?_
            have e_A23_12 : A23 0 12 = (A 0 12) := (hj22.2 12 rfl).trans e_A10_12
            refine va_get (D := (dC, dI)) (ci := 12) (v := .int (iI (A23 0 12))) (C := RX12) (T := TX12) (N := 85) hx hb hts hiX12 hown hK hP 0 wm0 rfl 12 (by decide) (hts _ (List.mem_cons_of_mem _ (wl_in_4 _ (List.mem_of_getElem? (i := 14) rfl)))) (fun _ h9 => h9) rfl dX12_goesOn__140 ?_
            refine tp_i (y := iI (A 0 12)) (congrArg iI e_A23_12) ?_
            have a_A2_11 : A2 11 = A 11 := (hf4.1 11 (by decide) rfl)
            have a_A10_11 : A10 11 = A 11 := (hj9.1 11 (by decide) rfl).trans a_A2_11
            have a_A23_11 : A23 11 = A 11 := (hj22.1 11 (by decide) rfl).trans a_A10_11
            refine x_iald hx hb hK hP 11 1 wm11 rfl (by omega) (by decide) dX12_goesOn__143 (fun z32 hz32 => ?_)
            have rz32 : (0 : Int) ≤ z32 ∧ z32 ≤ 4 := by rw [hz32]; exact hI 11 _
            have hz32 : z32 = A 11 ((A 0 12)).toNat := hz32.trans (congrFun a_A23_11 _)
            refine lv_icmp_ge (tgt := 234) hx hb dX12_goesOn__144 (by decide) (fun c33 => ?_) (fun c33 => ?_)
            · have c33 : z32 ≤ z21 := (i_le (rb rz32 (by decide) (by decide)) (rb f29 (by decide) (by decide))).mp c33
              exact RET _ _ _ _ _ ⟨hI, fr.trans (fr.trans (fr.trans (fr.rf) hf4 rfl rfl) hj9 rfl rfl) hj22 rfl rfl, (CI.fr (CI.fr (CI.fr hcCI hf4 rfl rfl) hj9 rfl rfl) hj22 rfl rfl), hc31, by omega⟩ hP hS dX12_goesOn__234
            · have c33 : ¬ z32 ≤ z21 := mt (i_le (rb rz32 (by decide) (by decide)) (rb f29 (by decide) (by decide))).mpr c33
              refine lv_aload_n hx hb dX12_goesOn__147 rfl (lv_at hl 3 rfl) ?_
              refine lv_iload_n hx hb dX12_goesOn__148 rfl (lv_at hl 4 rfl) ?_
              refine x_callv (As := [.int (iI x1)]) (rest := []) ⟨hx, hb, hml, hown, hts⟩ (mc_X12_takes l dC dI cB cI cJ cZ cQ q _ x1 hI hx1) (cwV 1 hts (goodV (wl_in_7 _ (List.mem_of_getElem? (i := 11) rfl)) (wl_in_7 _ (List.mem_of_getElem? (i := 12) rfl)) (wl_in_7 _ (List.mem_of_getElem? (i := 13) rfl)) (wl_in_0 _ (List.mem_of_getElem? (i := 8) rfl)) (wl_in_6 _ (List.mem_of_getElem? (i := 41) rfl))) rfl rfl rfl (by decide +kernel) ⟨Nat.le_of_ble_eq_true rfl, Nat.le_of_ble_eq_true rfl⟩) hK hDD hA0 hP hS 0 12 wm0 rfl rfl hl.1 (Nat.le_of_ble_eq_true rfl) dX12_goesOn__149 (fun A34 H locs hw35 hP hS => ?_)
              obtain ⟨hI, hf36, hw35⟩ := hw35
              clear hw35
              refine lv_aload_n hx hb dX12_goesOn__152 rfl (lv_at hl 3 rfl) ?_
              have e_A2_71 : A2 0 71 = (A 0 71) := (hf4.2 71 rfl)
              have e_A10_71 : A10 0 71 = (A 0 71) := (hj9.2 71 rfl).trans e_A2_71
              have e_A23_71 : A23 0 71 = (A 0 71) := (hj22.2 71 rfl).trans e_A10_71
              have e_A34_71 : A34 0 71 = (A 0 71) := (hf36.2 71 rfl).trans e_A23_71
              refine va_get (D := (dC, dI)) (ci := 12) (v := .int (iI (A34 0 71))) (C := RX12) (T := TX12) (N := 85) hx hb hts hiX12 hown hK hP 0 wm0 rfl 71 (by decide) (hts _ (List.mem_cons_of_mem _ (wl_in_7 _ (List.mem_of_getElem? (i := 3) rfl)))) (fun _ h9 => h9) rfl dX12_goesOn__153 ?_
              refine tp_i (y := iI (A 0 71)) (congrArg iI e_A34_71) ?_
              have r_A_0_71 : (-2147483648 : Int) ≤ (A 0 71) ∧ (A 0 71) ≤ 2147483647 := by rw [← e_A34_71]; exact hI 0 71
              refine lv_iload hx hb dX12_goesOn__156 (lv_at hl 0 rfl) ?_
              refine lv_ishr hx hb dX12_goesOn__158 ?_
              refine x_abs (fun z37 hz37 => ?_)
              refine lv_iconst (v := iI 1) hx hb dX12_goesOn__159 (by decide +kernel) ?_
              refine lv_iand hx hb dX12_goesOn__160 ?_
              refine x_and (b := 1) (by omega) (fun z38 hz38 => ?_)
              have J228_40 : ∀ (A58 : St) (H : Heap) (locs : List Loc) (ls : Array Slot), (A 0 66 ≤ (A58 0 66)) → (QI A58) → IM A58 → fr [47, 48, 49] [66, 69] A34 A58 → va_P (dC, dI) vwCl (WM cI cJ cZ q A58) H → va_S AS s.heap H locs → lv_has ls 5 [(4, .int (iI z21)), (3, .int (iI z5)), (2, .int (iI (z1 + 1))), (0, .ref (q 0)), (1, .int (iI x1))] → W p l e (headSpec ws_mb_X12_goesOn_ ({ frames := 4, cells := 0, slots := 0, locals := 100 } : Room)).room s m [.ref (q 0), .int (iI x1)].toArray below meth c H locs 0 0 Q (F0 m 228 ls []) := by
                intro A58 H locs ls f59 hc60 hI hj57 hP hS hl
                refine lv_iinc (v := iI (z21 + 1)) (lv' := [(4, .int (iI (z21 + 1))), (3, .int (iI z5)), (2, .int (iI (z1 + 1))), (0, .ref (q 0)), (1, .int (iI x1))]) hx hb dX12_goesOn__228 hl (k := 0) rfl (i_inc (by omega)) (by decide) rfl (fun ls hl => ?_)
                refine lv_goto (tgt := 133) hx hb dX12_goesOn__231 (by decide) ?_
                have r_A58_0_66 : (0 : Int) ≤ (A58 0 66) ∧ (A58 0 66) ≤ 76832 := hI 0 66
                exact ih26 _ (by omega) (z21 + 1) _ _ _ _ (by omega) (by omega) (by omega) hc60 rfl hI (fr.trans (fr.trans (fr.trans (fr.rf) hj22 rfl rfl) hf36 rfl rfl) hj57 rfl rfl) hP hS (lv_sub hl [0, 1, 2, 3, 4] rfl)
              refine lv_if_eq (tgt := 228) hx hb dX12_goesOn__161 (by decide) (fun c39 => ?_) (fun c39 => ?_)
              · have c39 : z38 = 0 := (i_eq0 (by omega)).mp c39
                have e_A34_66 : A34 0 66 = (A23 0 66) := (hf36.2 66 rfl)
                exact J228_40 _ _ _ _ (by omega) (QI.fr hc31 hf36 rfl rfl rfl) hI (fr.rf) hP hS (lv_sub hl [0, 1, 2, 3, 4] rfl)
              · have c39 : ¬ z38 = 0 := mt (i_eq0 (by omega)).mpr c39
                refine lv_aload_n hx hb dX12_goesOn__164 rfl (lv_at hl 3 rfl) ?_
                refine va_get (D := (dC, dI)) (ci := 12) (v := .ref (q 49)) (C := RX12) (T := TX12) (N := 85) hx hb hts hiX12 hown hK hP 0 wm0 rfl 68 (by decide) (hts _ (List.mem_cons_of_mem _ (wl_in_6 _ (List.mem_of_getElem? (i := 39) rfl)))) (fun _ h9 => h9) rfl dX12_goesOn__165 ?_
                refine lv_iload hx hb dX12_goesOn__168 (lv_at hl 0 rfl) ?_
                refine x_iald hx hb hK hP 49 1 wm49 rfl (by omega) (by decide) dX12_goesOn__170 (fun z41 hz41 => ?_)
                have rz41 : (0 : Int) ≤ z41 ∧ z41 ≤ 6 := by rw [hz41]; exact hI 49 _
                have hz41 : z41 = A34 49 (z21).toNat := hz41
                refine lv_if_eq (tgt := 228) hx hb dX12_goesOn__171 (by decide) (fun c42 => ?_) (fun c42 => ?_)
                · have c42 : z41 = 0 := (i_eq0 (rb rz41 (by decide) (by decide))).mp c42
                  have e_A34_66 : A34 0 66 = (A23 0 66) := (hf36.2 66 rfl)
                  exact J228_40 _ _ _ _ (by omega) (QI.fr hc31 hf36 rfl rfl rfl) hI (fr.rf) hP hS (lv_sub hl [0, 1, 2, 3, 4] rfl)
                · have c42 : ¬ z41 = 0 := mt (i_eq0 (rb rz41 (by decide) (by decide))).mpr c42
                  refine lv_aload_n hx hb dX12_goesOn__174 rfl (lv_at hl 3 rfl) ?_
                  refine lv_aload_n hx hb dX12_goesOn__175 rfl (lv_at hl 3 rfl) ?_
                  refine va_get (D := (dC, dI)) (ci := 12) (v := .int (iI (A34 0 67))) (C := RX12) (T := TX12) (N := 85) hx hb hts hiX12 hown hK hP 0 wm0 rfl 67 (by decide) (hts _ (List.mem_cons_of_mem _ (wl_in_6 _ (List.mem_of_getElem? (i := 38) rfl)))) (fun _ h9 => h9) rfl dX12_goesOn__176 ?_
                  have r_A34_0_67 : (0 : Int) ≤ (A34 0 67) ∧ (A34 0 67) ≤ 7 := hI 0 67
                  refine lv_aload_n hx hb dX12_goesOn__179 rfl (lv_at hl 3 rfl) ?_
                  refine va_get (D := (dC, dI)) (ci := 12) (v := .ref (q 15)) (C := RX12) (T := TX12) (N := 85) hx hb hts hiX12 hown hK hP 0 wm0 rfl 26 (by decide) (hts _ (List.mem_cons_of_mem _ (wl_in_3 _ (List.mem_of_getElem? (i := 7) rfl)))) (fun _ h9 => h9) rfl dX12_goesOn__180 ?_
                  refine lv_bipush (v := iI 10) hx hb dX12_goesOn__183 (by decide +kernel) ?_
                  refine lv_aload_n hx hb dX12_goesOn__185 rfl (lv_at hl 3 rfl) ?_
                  refine lv_iload hx hb dX12_goesOn__186 (lv_at hl 0 rfl) ?_
                  have e_A34_12 : A34 0 12 = (A 0 12) := (hf36.2 12 rfl).trans e_A23_12
                  refine x_calli (As := [.int (iI z21)]) (rest := [.int (iI 10), .ref (q 15), .int (iI (A34 0 67)), .ref (q 0)]) ⟨hx, hb, hml, hown, hts⟩ (mc_X12_key4 l dC dI cB cI cJ cZ cQ q _ z21 hI (by omega)) (cwV 1 hts (goodV (wl_in_4 _ (List.mem_of_getElem? (i := 44) rfl)) (wl_in_4 _ (List.mem_of_getElem? (i := 45) rfl)) (wl_in_4 _ (List.mem_of_getElem? (i := 46) rfl)) (wl_in_0 _ (List.mem_of_getElem? (i := 8) rfl)) (wl_in_4 _ (List.mem_of_getElem? (i := 41) rfl))) rfl rfl rfl (by decide +kernel) ⟨Nat.le_of_ble_eq_true rfl, Nat.le_of_ble_eq_true rfl⟩) hK hDD hA0 hP hS 0 12 wm0 rfl rfl hl.1 (Nat.le_of_ble_eq_true rfl) dX12_goesOn__188 (fun z43 A44 H locs hw45 hP hS => ?_)
                  obtain ⟨rfl, hw45⟩ := hw45
                  refine tp_i (y := iI (4 * (A 0 12) + z21)) (congrArg iI (show z43 = 4 * (A 0 12) + z21 by omega)) ?_
                  clear hw45 z43
                  refine x_mulv (v := 40 * (A 0 12) + 10 * z21) hx hb dX12_goesOn__191 (by omega) ?_
                  refine lv_aload_n hx hb dX12_goesOn__192 rfl (lv_at hl 3 rfl) ?_
                  refine va_get (D := (dC, dI)) (ci := 12) (v := .ref (q 49)) (C := RX12) (T := TX12) (N := 85) hx hb hts hiX12 hown hK hP 0 wm0 rfl 68 (by decide) (hts _ (List.mem_cons_of_mem _ (wl_in_6 _ (List.mem_of_getElem? (i := 39) rfl)))) (fun _ h9 => h9) rfl dX12_goesOn__193 ?_
                  refine lv_iload hx hb dX12_goesOn__196 (lv_at hl 0 rfl) ?_
                  refine x_iald hx hb hK hP 49 1 wm49 rfl (by omega) (by decide) dX12_goesOn__198 (fun z46 hz46 => ?_)
                  have rz46 : (0 : Int) ≤ z46 ∧ z46 ≤ 6 := by rw [hz46]; exact hI 49 _
                  have hz46 : z46 = A34 49 (z21).toNat := hz46
                  have ez46 : z46 = z41 := hz46.trans hz41.symm
                  refine x_addv (v := 40 * (A 0 12) + 10 * z21 + z46) hx hb dX12_goesOn__199 (by omega) ?_
                  refine lv_iconst (v := iI 1) hx hb dX12_goesOn__200 (by decide +kernel) ?_
                  refine x_subv (v := 40 * (A 0 12) + 10 * z21 + z46 - 1) hx hb dX12_goesOn__201 (by omega) ?_
                  have a_A2_15 : A2 15 = A 15 := (hf4.1 15 (by decide) rfl)
                  have a_A10_15 : A10 15 = A 15 := (hj9.1 15 (by decide) rfl).trans a_A2_15
                  have a_A23_15 : A23 15 = A 15 := (hj22.1 15 (by decide) rfl).trans a_A10_15
                  have a_A34_15 : A34 15 = A 15 := (hf36.1 15 (by decide) rfl).trans a_A23_15
                  refine x_iald hx hb hK hP 15 1 wm15 rfl (by omega) (by decide) dX12_goesOn__202 (fun z47 hz47 => ?_)
                  have rz47 : (0 : Int) ≤ z47 ∧ z47 ≤ 9 := by rw [hz47]; exact hI 15 _
                  have hz47 : z47 = A 15 (40 * (A 0 12) + 10 * z21 + z46 - 1).toNat := hz47.trans (congrFun a_A34_15 _)
                  refine x_calli (As := [.int (iI (A34 0 67)), .int (iI z47)]) (rest := []) ⟨hx, hb, hml, hown, hts⟩ (mc_X12_isAt l dC dI cB cI cJ cZ cQ q _ (A34 0 67) z47 hI (rb r_A34_0_67 (by decide) (by decide)) rz47) (cwV 2 hts (goodV (wl_in_5 _ (List.mem_of_getElem? (i := 38) rfl)) (wl_in_5 _ (List.mem_of_getElem? (i := 39) rfl)) (wl_in_5 _ (List.mem_of_getElem? (i := 40) rfl)) (wl_in_0 _ (List.mem_of_getElem? (i := 8) rfl)) (wl_in_5 _ (List.mem_of_getElem? (i := 28) rfl))) rfl rfl rfl (by decide +kernel) ⟨Nat.le_of_ble_eq_true rfl, Nat.le_of_ble_eq_true rfl⟩) hK hDD hA0 hP hS 0 12 wm0 rfl rfl hl.1 (Nat.le_of_ble_eq_true rfl) dX12_goesOn__203 (fun z48 A49 H locs hw50 hP hS => ?_)
                  obtain ⟨rfl, hw50⟩ := hw50
                  refine lv_if_ne (tgt := 212) hx hb dX12_goesOn__206 (by decide) (fun c51 => ?_) (fun c51 => ?_)
                  · have c51 : ¬ z48 = 0 := mt (i_eq0 (rb hw50 (by decide) (by decide))).mpr c51
                    refine lv_aload_n hx hb dX12_goesOn__212 rfl (lv_at hl 3 rfl) ?_
                    refine va_get (D := (dC, dI)) (ci := 12) (v := .ref (q 49)) (C := RX12) (T := TX12) (N := 85) hx hb hts hiX12 hown hK hP 0 wm0 rfl 68 (by decide) (hts _ (List.mem_cons_of_mem _ (wl_in_6 _ (List.mem_of_getElem? (i := 39) rfl)))) (fun _ h9 => h9) rfl dX12_goesOn__213 ?_
                    refine lv_iload hx hb dX12_goesOn__216 (lv_at hl 0 rfl) ?_
                    refine lv_dup2_11 hx hb dX12_goesOn__218 rfl rfl ?_
                    refine x_iald hx hb hK hP 49 1 wm49 rfl (by omega) (by decide) dX12_goesOn__219 (fun z52 hz52 => ?_)
                    have rz52 : (0 : Int) ≤ z52 ∧ z52 ≤ 6 := by rw [hz52]; exact hI 49 _
                    have hz52 : z52 = A34 49 (z21).toNat := hz52
                    have ez52 : z52 = z41 := hz52.trans hz41.symm
                    refine lv_iconst (v := iI 1) hx hb dX12_goesOn__220 (by decide +kernel) ?_
                    refine x_subv (v := z52 - 1) hx hb dX12_goesOn__221 (by omega) ?_
                    refine x_iast hx hb hK hP hDD hS 49 1 wm49 rfl (by omega) (by decide) dX12_goesOn__222 ws49 (fun H locs hP hS => ?_)
                    have hI := hI.st (j := 49) (i := (z21).toNat) (v := z52 - 1) (show (0 : Int) ≤ z52 - 1 ∧ z52 - 1 ≤ 6 from (by omega))
                    refine lv_aload_n hx hb dX12_goesOn__223 rfl (lv_at hl 3 rfl) ?_
                    refine lv_iload_n hx hb dX12_goesOn__224 rfl (lv_at hl 2 rfl) ?_
                    obtain ⟨A53, hA53⟩ : ∃ A53 : St, A53 = (stA A34 49 (z21).toNat (z52 - 1)) := ⟨_, rfl⟩
                    rw [← hA53] at hP hI
                    have e_A34_66 : A34 0 66 = (A23 0 66) := (hf36.2 66 rfl)
                    have e_A53_66 : A53 0 66 = (A23 0 66) := by rw [hA53]; exact e_A34_66
                    refine x_callv (As := [.int (iI (z1 + 1))]) (rest := []) ⟨hx, hb, hml, hown, hts⟩ (mc_X12_comes l dC dI cB cI cJ cZ cQ q _ (z1 + 1) hI (by omega) (by exact (QI.fr (QI.fr hc31 hf36 rfl rfl rfl) (fr_def hA53 (fr.st (fr.rf (M := [49]) (N := [])) (by decide) rfl)) rfl rfl rfl)) (by omega)) (cwV 1 hts (goodV (wl_in_7 _ (List.mem_of_getElem? (i := 4) rfl)) (wl_in_7 _ (List.mem_of_getElem? (i := 5) rfl)) (wl_in_7 _ (List.mem_of_getElem? (i := 6) rfl)) (wl_in_0 _ (List.mem_of_getElem? (i := 8) rfl)) (wl_in_6 _ (List.mem_of_getElem? (i := 50) rfl))) rfl rfl rfl (by decide +kernel) ⟨Nat.le_of_ble_eq_true rfl, Nat.le_of_ble_eq_true rfl⟩) hK hDD hA0 hP hS 0 12 wm0 rfl rfl hl.1 (Nat.le_of_ble_eq_true rfl) dX12_goesOn__225 (fun A54 H locs hw55 hP hS => ?_)
                    obtain ⟨hI, hf56, hw55⟩ := hw55
                    have r_A54_0_66 : (0 : Int) ≤ (A54 0 66) ∧ (A54 0 66) ≤ 76832 := hI 0 66
                    exact J228_40 _ _ _ _ (by omega) hw55.1 hI (fr.trans (fr_def hA53 (fr.st (fr.rf) (by decide) rfl)) hf56 rfl rfl) hP hS (lv_sub hl [0, 1, 2, 3, 4] rfl)
                  · have c51 : z48 = 0 := (i_eq0 (rb hw50 (by decide) (by decide))).mp c51
                    refine lv_goto (tgt := 228) hx hb dX12_goesOn__209 (by decide) ?_
                    have e_A34_66 : A34 0 66 = (A23 0 66) := (hf36.2 66 rfl)
                    exact J228_40 _ _ _ _ (by omega) (QI.fr hc31 hf36 rfl rfl rfl) hI (fr.rf) hP hS (lv_sub hl [0, 1, 2, 3, 4] rfl)
        exact L133_25 _ 0 _ _ _ _ (by omega) (by omega) (by omega) hc18 rfl hI (fr.rf) hP hS (lv_sub hl [0, 1, 2, 3, 4] rfl)
      · have c20 : ¬ z19 ≤ z8 := mt (i_le (rb rz19 (by decide) (by decide)) (rb f16 (by decide) (by decide))).mpr c20
        refine lv_aload_n hx hb dX12_goesOn__36 rfl (lv_at hl 3 rfl) ?_
        refine lv_iload_n hx hb dX12_goesOn__37 rfl (lv_at hl 4 rfl) ?_
        refine x_callv (As := [.int (iI x1)]) (rest := []) ⟨hx, hb, hml, hown, hts⟩ (mc_X12_takes l dC dI cB cI cJ cZ cQ q _ x1 hI hx1) (cwV 1 hts (goodV (wl_in_7 _ (List.mem_of_getElem? (i := 11) rfl)) (wl_in_7 _ (List.mem_of_getElem? (i := 12) rfl)) (wl_in_7 _ (List.mem_of_getElem? (i := 13) rfl)) (wl_in_0 _ (List.mem_of_getElem? (i := 8) rfl)) (wl_in_6 _ (List.mem_of_getElem? (i := 41) rfl))) rfl rfl rfl (by decide +kernel) ⟨Nat.le_of_ble_eq_true rfl, Nat.le_of_ble_eq_true rfl⟩) hK hDD hA0 hP hS 0 12 wm0 rfl rfl hl.1 (Nat.le_of_ble_eq_true rfl) dX12_goesOn__38 (fun A61 H locs hw62 hP hS => ?_)
        obtain ⟨hI, hf63, hw62⟩ := hw62
        clear hw62
        refine lv_aload_n hx hb dX12_goesOn__41 rfl (lv_at hl 3 rfl) ?_
        refine va_get (D := (dC, dI)) (ci := 12) (v := .ref (q 8)) (C := RX12) (T := TX12) (N := 85) hx hb hts hiX12 hown hK hP 0 wm0 rfl 19 (by decide) (hts _ (List.mem_cons_of_mem _ (wl_in_2 _ (List.mem_of_getElem? (i := 41) rfl)))) (fun _ h9 => h9) rfl dX12_goesOn__42 ?_
        refine lv_aload_n hx hb dX12_goesOn__45 rfl (lv_at hl 3 rfl) ?_
        refine lv_iload hx hb dX12_goesOn__46 (lv_at hl 0 rfl) ?_
        have e_A61_12 : A61 0 12 = (A 0 12) := (hf63.2 12 rfl).trans e_A10_12
        refine x_calli (As := [.int (iI z8)]) (rest := [.ref (q 8)]) ⟨hx, hb, hml, hown, hts⟩ (mc_X12_door10 l dC dI cB cI cJ cZ cQ q _ z8 hI (by omega)) (cwV 1 hts (goodV (wl_in_4 _ (List.mem_of_getElem? (i := 49) rfl)) (wl_in_4 _ (List.mem_of_getElem? (i := 50) rfl)) (wl_in_4 _ (List.mem_of_getElem? (i := 51) rfl)) (wl_in_0 _ (List.mem_of_getElem? (i := 8) rfl)) (wl_in_4 _ (List.mem_of_getElem? (i := 42) rfl))) rfl rfl rfl (by decide +kernel) ⟨Nat.le_of_ble_eq_true rfl, Nat.le_of_ble_eq_true rfl⟩) hK hDD hA0 hP hS 0 12 wm0 rfl rfl hl.1 (Nat.le_of_ble_eq_true rfl) dX12_goesOn__48 (fun z64 A65 H locs hw66 hP hS => ?_)
        obtain ⟨rfl, hw66⟩ := hw66
        refine tp_i (y := iI (10 * (A 0 12) + z8)) (congrArg iI (show z64 = 10 * (A 0 12) + z8 by omega)) ?_
        clear hw66 z64
        have a_A2_8 : A2 8 = A 8 := (hf4.1 8 (by decide) rfl)
        have a_A10_8 : A10 8 = A 8 := (hj9.1 8 (by decide) rfl).trans a_A2_8
        have a_A61_8 : A61 8 = A 8 := (hf63.1 8 (by decide) rfl).trans a_A10_8
        refine x_zald hx hb hK hP 8 3 wm8 rfl (by omega) (by decide) dX12_goesOn__51 (fun z67 hz67 => ?_)
        have rz67 : (0 : Int) ≤ z67 ∧ z67 ≤ 1 := by rw [hz67]; exact hI 8 _
        have hz67 : z67 = A 8 (10 * (A 0 12) + z8).toNat := hz67.trans (congrFun a_A61_8 _)
        have J124_69 : ∀ (A95 : St) (H : Heap) (locs : List Loc) (ls : Array Slot), (A 0 66 ≤ (A95 0 66)) → (QI A95) → IM A95 → fr [42, 43, 47, 48] [66, 67, 69] A61 A95 → va_P (dC, dI) vwCl (WM cI cJ cZ q A95) H → va_S AS s.heap H locs → lv_has ls 5 [(4, .int (iI z8)), (3, .int (iI z5)), (2, .int (iI (z1 + 1))), (0, .ref (q 0)), (1, .int (iI x1))] → W p l e (headSpec ws_mb_X12_goesOn_ ({ frames := 4, cells := 0, slots := 0, locals := 100 } : Room)).room s m [.ref (q 0), .int (iI x1)].toArray below meth c H locs 0 0 Q (F0 m 124 ls []) := by
          intro A95 H locs ls f96 hc97 hI hj94 hP hS hl
          refine lv_iinc (v := iI (z8 + 1)) (lv' := [(4, .int (iI (z8 + 1))), (3, .int (iI z5)), (2, .int (iI (z1 + 1))), (0, .ref (q 0)), (1, .int (iI x1))]) hx hb dX12_goesOn__124 hl (k := 0) rfl (i_inc (by omega)) (by decide) rfl (fun ls hl => ?_)
          refine lv_goto (tgt := 22) hx hb dX12_goesOn__127 (by decide) ?_
          have r_A95_0_66 : (0 : Int) ≤ (A95 0 66) ∧ (A95 0 66) ≤ 76832 := hI 0 66
          exact ih13 _ (by omega) (z8 + 1) _ _ _ _ (by omega) (by omega) (by omega) hc97 rfl hI (fr.trans (fr.trans (fr.trans (fr.rf) hj9 rfl rfl) hf63 rfl rfl) hj94 rfl rfl) hP hS (lv_sub hl [0, 1, 2, 3, 4] rfl)
        refine lv_if_ne (tgt := 124) hx hb dX12_goesOn__52 (by decide) (fun c68 => ?_) (fun c68 => ?_)
        · have c68 : ¬ z67 = 0 := mt (i_eq0 (rb rz67 (by decide) (by decide))).mpr c68
          have e_A61_66 : A61 0 66 = (A10 0 66) := (hf63.2 66 rfl)
          exact J124_69 _ _ _ _ (by omega) (QI.fr hc18 hf63 rfl rfl rfl) hI (fr.rf) hP hS (lv_sub hl [0, 1, 2, 3, 4] rfl)
        · have c68 : z67 = 0 := (i_eq0 (rb rz67 (by decide) (by decide))).mp c68
          refine lv_aload_n hx hb dX12_goesOn__55 rfl (lv_at hl 3 rfl) ?_
          refine lv_aload_n hx hb dX12_goesOn__56 rfl (lv_at hl 3 rfl) ?_
          refine va_get (D := (dC, dI)) (ci := 12) (v := .int (iI (A61 0 67))) (C := RX12) (T := TX12) (N := 85) hx hb hts hiX12 hown hK hP 0 wm0 rfl 67 (by decide) (hts _ (List.mem_cons_of_mem _ (wl_in_6 _ (List.mem_of_getElem? (i := 38) rfl)))) (fun _ h9 => h9) rfl dX12_goesOn__57 ?_
          have r_A61_0_67 : (0 : Int) ≤ (A61 0 67) ∧ (A61 0 67) ≤ 7 := hI 0 67
          refine lv_iload hx hb dX12_goesOn__60 (lv_at hl 0 rfl) ?_
          refine x_calli (As := [.int (iI (A61 0 67)), .int (iI z8)]) (rest := []) ⟨hx, hb, hml, hown, hts⟩ (mc_X12_isAt l dC dI cB cI cJ cZ cQ q _ (A61 0 67) z8 hI (rb r_A61_0_67 (by decide) (by decide)) (by omega)) (cwV 2 hts (goodV (wl_in_5 _ (List.mem_of_getElem? (i := 38) rfl)) (wl_in_5 _ (List.mem_of_getElem? (i := 39) rfl)) (wl_in_5 _ (List.mem_of_getElem? (i := 40) rfl)) (wl_in_0 _ (List.mem_of_getElem? (i := 8) rfl)) (wl_in_5 _ (List.mem_of_getElem? (i := 28) rfl))) rfl rfl rfl (by decide +kernel) ⟨Nat.le_of_ble_eq_true rfl, Nat.le_of_ble_eq_true rfl⟩) hK hDD hA0 hP hS 0 12 wm0 rfl rfl hl.1 (Nat.le_of_ble_eq_true rfl) dX12_goesOn__62 (fun z70 A71 H locs hw72 hP hS => ?_)
          obtain ⟨rfl, hw72⟩ := hw72
          refine lv_if_eq (tgt := 124) hx hb dX12_goesOn__65 (by decide) (fun c73 => ?_) (fun c73 => ?_)
          · have c73 : z70 = 0 := (i_eq0 (rb hw72 (by decide) (by decide))).mp c73
            have e_A61_66 : A61 0 66 = (A10 0 66) := (hf63.2 66 rfl)
            exact J124_69 _ _ _ _ (by omega) (QI.fr hc18 hf63 rfl rfl rfl) hI (fr.rf) hP hS (lv_sub hl [0, 1, 2, 3, 4] rfl)
          · have c73 : ¬ z70 = 0 := mt (i_eq0 (rb hw72 (by decide) (by decide))).mpr c73
            refine lv_aload_n hx hb dX12_goesOn__68 rfl (lv_at hl 3 rfl) ?_
            refine lv_iload hx hb dX12_goesOn__69 (lv_at hl 0 rfl) ?_
            refine x_calli (As := [.int (iI z8)]) (rest := []) ⟨hx, hb, hml, hown, hts⟩ (mc_X12_isClosed l dC dI cB cI cJ cZ cQ q _ z8 hI (by omega)) (cwV 1 hts (goodV (wl_in_6 _ (List.mem_of_getElem? (i := 44) rfl)) (wl_in_6 _ (List.mem_of_getElem? (i := 45) rfl)) (wl_in_6 _ (List.mem_of_getElem? (i := 46) rfl)) (wl_in_0 _ (List.mem_of_getElem? (i := 8) rfl)) (wl_in_6 _ (List.mem_of_getElem? (i := 42) rfl))) rfl rfl rfl (by decide +kernel) ⟨Nat.le_of_ble_eq_true rfl, Nat.le_of_ble_eq_true rfl⟩) hK hDD hA0 hP hS 0 12 wm0 rfl rfl hl.1 (Nat.le_of_ble_eq_true rfl) dX12_goesOn__71 (fun z74 A75 H locs hw76 hP hS => ?_)
            obtain ⟨rfl, hw76⟩ := hw76
            refine lv_if_ne (tgt := 124) hx hb dX12_goesOn__74 (by decide) (fun c77 => ?_) (fun c77 => ?_)
            · have c77 : ¬ z74 = 0 := mt (i_eq0 (rb hw76 (by decide) (by decide))).mpr c77
              have e_A61_66 : A61 0 66 = (A10 0 66) := (hf63.2 66 rfl)
              exact J124_69 _ _ _ _ (by omega) (QI.fr hc18 hf63 rfl rfl rfl) hI (fr.rf) hP hS (lv_sub hl [0, 1, 2, 3, 4] rfl)
            · have c77 : z74 = 0 := (i_eq0 (rb hw76 (by decide) (by decide))).mp c77
              refine lv_aload_n hx hb dX12_goesOn__77 rfl (lv_at hl 3 rfl) ?_
              refine lv_iload hx hb dX12_goesOn__78 (lv_at hl 0 rfl) ?_
              refine lv_aload_n hx hb dX12_goesOn__80 rfl (lv_at hl 3 rfl) ?_
              have e_A2_70 : A2 0 70 = (A 0 70) := (hf4.2 70 rfl)
              have e_A10_70 : A10 0 70 = (A 0 70) := (hj9.2 70 rfl).trans e_A2_70
              have e_A61_70 : A61 0 70 = (A 0 70) := (hf63.2 70 rfl).trans e_A10_70
              refine va_get (D := (dC, dI)) (ci := 12) (v := .int (iI (A61 0 70))) (C := RX12) (T := TX12) (N := 85) hx hb hts hiX12 hown hK hP 0 wm0 rfl 70 (by decide) (hts _ (List.mem_cons_of_mem _ (wl_in_7 _ (List.mem_of_getElem? (i := 2) rfl)))) (fun _ h9 => h9) rfl dX12_goesOn__81 ?_
              refine tp_i (y := iI (A 0 70)) (congrArg iI e_A61_70) ?_
              have r_A_0_70 : (0 : Int) ≤ (A 0 70) ∧ (A 0 70) ≤ 2 := by rw [← e_A61_70]; exact hI 0 70
              refine lv_aload_n hx hb dX12_goesOn__84 rfl (lv_at hl 3 rfl) ?_
              refine va_get (D := (dC, dI)) (ci := 12) (v := .int (iI (A61 0 67))) (C := RX12) (T := TX12) (N := 85) hx hb hts hiX12 hown hK hP 0 wm0 rfl 67 (by decide) (hts _ (List.mem_cons_of_mem _ (wl_in_6 _ (List.mem_of_getElem? (i := 38) rfl)))) (fun _ h9 => h9) rfl dX12_goesOn__85 ?_
              refine lv_aload_n hx hb dX12_goesOn__88 rfl (lv_at hl 3 rfl) ?_
              have e_A2_71 : A2 0 71 = (A 0 71) := (hf4.2 71 rfl)
              have e_A10_71 : A10 0 71 = (A 0 71) := (hj9.2 71 rfl).trans e_A2_71
              have e_A61_71 : A61 0 71 = (A 0 71) := (hf63.2 71 rfl).trans e_A10_71
              refine va_get (D := (dC, dI)) (ci := 12) (v := .int (iI (A61 0 71))) (C := RX12) (T := TX12) (N := 85) hx hb hts hiX12 hown hK hP 0 wm0 rfl 71 (by decide) (hts _ (List.mem_cons_of_mem _ (wl_in_7 _ (List.mem_of_getElem? (i := 3) rfl)))) (fun _ h9 => h9) rfl dX12_goesOn__89 ?_
              refine tp_i (y := iI (A 0 71)) (congrArg iI e_A61_71) ?_
              have r_A_0_71 : (-2147483648 : Int) ≤ (A 0 71) ∧ (A 0 71) ≤ 2147483647 := by rw [← e_A61_71]; exact hI 0 71
              refine x_callSi (As := [.int (iI (A 0 71))]) (rest := [.int (iI (A61 0 67)), .int (iI (A 0 70)), .int (iI z8), .ref (q 0)]) ⟨hx, hb, hml, hown, hts⟩ (mc_X12_bitsOf l dC dI cB cI cJ cZ cQ q _ (A 0 71) hI r_A_0_71) (va_cwS 1 hts (goodS (wl_in_5 _ (List.mem_of_getElem? (i := 44) rfl)) (wl_in_5 _ (List.mem_of_getElem? (i := 45) rfl)) (wl_in_0 _ (List.mem_of_getElem? (i := 8) rfl)) (wl_in_5 _ (List.mem_of_getElem? (i := 27) rfl))) rfl rfl rfl (by decide +kernel) ⟨Nat.le_of_ble_eq_true rfl, Nat.le_of_ble_eq_true rfl⟩) hK hDD hA0 hP hS rfl hl.1 (Nat.le_of_ble_eq_true rfl) dX12_goesOn__92 (fun z78 A79 H locs hw80 hP hS => ?_)
              obtain ⟨rfl, hw80⟩ := hw80
              refine lv_iload_n hx hb dX12_goesOn__95 rfl (lv_at hl 1 rfl) ?_
              refine x_calli (As := [.int (iI z8), .int (iI (A 0 70)), .int (iI (A61 0 67)), .int (iI z78), .int (iI z5)]) (rest := []) ⟨hx, hb, hml, hown, hts⟩ (mb_X12_isBarred l dC dI cB cI cJ cZ cQ q _ z8 (A 0 70) (A61 0 67) z78 z5 hI (rb f16 (by decide) (by decide)) (rb r_A_0_70 (by decide) (by decide)) (rb r_A61_0_67 (by decide) (by decide)) hw80 hw7 (CI.fr (CI.fr (CI.fr hcCI hf4 rfl rfl) hj9 rfl rfl) hf63 rfl rfl)) (cwV 5 hts (goodV (wl_in_5 _ (List.mem_of_getElem? (i := 46) rfl)) (wl_in_5 _ (List.mem_of_getElem? (i := 47) rfl)) (wl_in_5 _ (List.mem_of_getElem? (i := 48) rfl)) (wl_in_0 _ (List.mem_of_getElem? (i := 8) rfl)) (wl_in_5 _ (List.mem_of_getElem? (i := 29) rfl))) rfl rfl rfl (by decide +kernel) ⟨Nat.le_of_ble_eq_true rfl, Nat.le_of_ble_eq_true rfl⟩) hK hDD hA0 hP hS 0 12 wm0 rfl rfl hl.1 (Nat.le_of_ble_eq_true rfl) dX12_goesOn__96 (fun z81 A82 H locs hw83 hP hS => ?_)
              obtain ⟨hI, hf84, hw83⟩ := hw83
              obtain ⟨hc85, hw83⟩ := hw83
              refine lv_if_eq (tgt := 105) hx hb dX12_goesOn__99 (by decide) (fun c86 => ?_) (fun c86 => ?_)
              · have c86 : z81 = 0 := (i_eq0 (rb hw83 (by decide) (by decide))).mp c86
                refine lv_aload_n hx hb dX12_goesOn__105 rfl (lv_at hl 3 rfl) ?_
                refine lv_aload_n hx hb dX12_goesOn__106 rfl (lv_at hl 3 rfl) ?_
                refine lv_iload hx hb dX12_goesOn__107 (lv_at hl 0 rfl) ?_
                refine lv_aload_n hx hb dX12_goesOn__109 rfl (lv_at hl 3 rfl) ?_
                have e_A82_67 : A82 0 67 = (A61 0 67) := (hf84.2 67 rfl)
                refine va_get (D := (dC, dI)) (ci := 12) (v := .int (iI (A82 0 67))) (C := RX12) (T := TX12) (N := 85) hx hb hts hiX12 hown hK hP 0 wm0 rfl 67 (by decide) (hts _ (List.mem_cons_of_mem _ (wl_in_6 _ (List.mem_of_getElem? (i := 38) rfl)))) (fun _ h9 => h9) rfl dX12_goesOn__110 ?_
                refine tp_i (y := iI (A61 0 67)) (congrArg iI e_A82_67) ?_
                refine x_calli (As := [.int (iI z8), .int (iI (A61 0 67))]) (rest := [.ref (q 0)]) ⟨hx, hb, hml, hown, hts⟩ (mc_X12_otherSide l dC dI cB cI cJ cZ cQ q _ z8 (A61 0 67) hI (by omega) (rb r_A61_0_67 (by decide) (by decide))) (cwV 2 hts (goodV (wl_in_5 _ (List.mem_of_getElem? (i := 49) rfl)) (wl_in_5 _ (List.mem_of_getElem? (i := 50) rfl)) (wl_in_5 _ (List.mem_of_getElem? (i := 51) rfl)) (wl_in_0 _ (List.mem_of_getElem? (i := 8) rfl)) (wl_in_5 _ (List.mem_of_getElem? (i := 33) rfl))) rfl rfl rfl (by decide +kernel) ⟨Nat.le_of_ble_eq_true rfl, Nat.le_of_ble_eq_true rfl⟩) hK hDD hA0 hP hS 0 12 wm0 rfl rfl hl.1 (Nat.le_of_ble_eq_true rfl) dX12_goesOn__113 (fun z87 A88 H locs hw89 hP hS => ?_)
                obtain ⟨rfl, hw89⟩ := hw89
                refine x_put (D := (dC, dI)) (ci := 12) (v := .int (iI z87)) (ty := .int) (C := RX12) (T := TX12) (N := 85) hx hb hts hiX12 tyX12 tyX12_ok nmX12 hown hK hP hDD hS 0 wm0 rfl 67 (by decide) (hts _ (List.mem_cons_of_mem _ (wl_in_6 _ (List.mem_of_getElem? (i := 38) rfl)))) (fun _ h9 => h9) rfl (by decide +kernel) rfl rfl (Nat.le_of_ble_eq_true rfl) dX12_goesOn__116 (wf67 (v := z87)) (fun H locs hP hS => ?_)
                have hI := hI.st (j := 0) (i := 67) (v := z87) (show (0 : Int) ≤ z87 ∧ z87 ≤ 7 from (by omega))
                refine lv_aload_n hx hb dX12_goesOn__119 rfl (lv_at hl 3 rfl) ?_
                refine lv_iload_n hx hb dX12_goesOn__120 rfl (lv_at hl 2 rfl) ?_
                obtain ⟨A90, hA90⟩ : ∃ A90 : St, A90 = (stA A82 0 67 z87) := ⟨_, rfl⟩
                rw [← hA90] at hP hI
                have e_A61_66 : A61 0 66 = (A10 0 66) := (hf63.2 66 rfl)
                have e_A82_66 : A82 0 66 = (A10 0 66) := (hf84.2 66 rfl).trans e_A61_66
                have e_A90_66 : A90 0 66 = (A10 0 66) := by rw [hA90]; exact e_A82_66
                refine x_callv (As := [.int (iI (z1 + 1))]) (rest := []) ⟨hx, hb, hml, hown, hts⟩ (mc_X12_comes l dC dI cB cI cJ cZ cQ q _ (z1 + 1) hI (by omega) (by exact (QI.fr (QI.fr (QI.fr hc18 hf63 rfl rfl rfl) hf84 rfl rfl rfl) (fr_def hA90 (fr.sf (fr.rf (M := []) (N := [67])) rfl)) rfl rfl rfl)) (by omega)) (cwV 1 hts (goodV (wl_in_7 _ (List.mem_of_getElem? (i := 4) rfl)) (wl_in_7 _ (List.mem_of_getElem? (i := 5) rfl)) (wl_in_7 _ (List.mem_of_getElem? (i := 6) rfl)) (wl_in_0 _ (List.mem_of_getElem? (i := 8) rfl)) (wl_in_6 _ (List.mem_of_getElem? (i := 50) rfl))) rfl rfl rfl (by decide +kernel) ⟨Nat.le_of_ble_eq_true rfl, Nat.le_of_ble_eq_true rfl⟩) hK hDD hA0 hP hS 0 12 wm0 rfl rfl hl.1 (Nat.le_of_ble_eq_true rfl) dX12_goesOn__121 (fun A91 H locs hw92 hP hS => ?_)
                obtain ⟨hI, hf93, hw92⟩ := hw92
                have r_A91_0_66 : (0 : Int) ≤ (A91 0 66) ∧ (A91 0 66) ≤ 76832 := hI 0 66
                exact J124_69 _ _ _ _ (by omega) hw92.1 hI (fr.trans (fr_def hA90 (fr.sf (fr.trans (fr.rf) hf84 rfl rfl) rfl)) hf93 rfl rfl) hP hS (lv_sub hl [0, 1, 2, 3, 4] rfl)
              · have c86 : ¬ z81 = 0 := mt (i_eq0 (rb hw83 (by decide) (by decide))).mpr c86
                refine lv_goto (tgt := 124) hx hb dX12_goesOn__102 (by decide) ?_
                have e_A61_66 : A61 0 66 = (A10 0 66) := (hf63.2 66 rfl)
                have e_A82_66 : A82 0 66 = (A10 0 66) := (hf84.2 66 rfl).trans e_A61_66
                exact J124_69 _ _ _ _ (by omega) (QI.fr (QI.fr hc18 hf63 rfl rfl rfl) hf84 rfl rfl rfl) hI (fr.trans (fr.rf) hf84 rfl rfl) hP hS (lv_sub hl [0, 1, 2, 3, 4] rfl)
  exact L22_12 _ 0 _ _ _ _ (by omega) (by omega) (by omega) (QI.fr hcQI hf4 rfl rfl rfl) rfl hI (fr.rf) hP hS (lv_sub hl [0, 1, 2, 3, 4] rfl)

def ws_mb_X12_searches : List Cond := .code yX12_searches cX12_searches 5 none :: WX
set_option maxHeartbeats 4000000 in
set_option maxRecDepth 100000 in
theorem mb_X12_searches (l : Launch) (dC : Nat → ClassId) (dI : Nat → Nat → Nat) (cB cI cJ cZ cQ : ClassId) (q : Nat → Nat) (A : St) (x1 x2 x3 : Int) (hI : IM A) (hx1 : (0 : Int) ≤ x1 ∧ x1 ≤ 2) (hx2 : (-2147483648 : Int) ≤ x2 ∧ x2 ≤ 2147483647) (hx3 : (0 : Int) ≤ x3 ∧ x3 ≤ 1) (hcCI : CI A) (hcWI : WI A) : XMv l yX12_searches ws_mb_X12_searches ({ frames := 5, cells := 0, slots := 0, locals := 124 } : Room) (dC, dI) (tyA cB cI cJ cZ cQ) (WM cI cJ cZ q) A [.ref (q 0), .int (iI x1), .int (iI x2), .int (iI x3)] (fun u => IM u ∧ fr [42, 43, 47, 48, 49, 50] [66, 67, 69, 70, 71, 73] A u ∧ CI u ∧ WI u ∧ (True)) := by
  refine x_metv (cc := cX12_searches) (maxL := 5) WM_adr (by decide +kernel) rfl (Nat.le_of_ble_eq_true rfl) (fun p e s m below meth c Q AS ls hx hb hml hown hts hK hDD hA0 hP hS hl RET => ?_)
  have hown : s.vm.findClass RX12 = some m.cls := hown
  have hl : lv_has ls 5 [(0, .ref (q 0)), (1, .int (iI x1)), (2, .int (iI x2)), (3, .int (iI x3))] := hl
  have hiX12 : ∀ w ∈ u_ws RX12 TX12 85, w ∈ ws_mb_X12_searches := fun w h => List.mem_cons_of_mem _ (wx_lay w h)
  obtain ⟨H, hHe⟩ : ∃ H : Heap, H = s.heap := ⟨_, rfl⟩
  rw [← hHe] at hP
  have hS : va_S AS s.heap H [] := by rw [hHe]; exact hS
  suffices hgo : ∀ locs : List Loc, va_S AS s.heap H locs → W p l e (headSpec ws_mb_X12_searches ({ frames := 5, cells := 0, slots := 0, locals := 124 } : Room)).room s m [.ref (q 0), .int (iI x1), .int (iI x2), .int (iI x3)].toArray below meth c H locs 0 0 Q (F0 m 0 ls []) by
    have := hgo [] hS
    rw [hHe] at this
    exact this
  clear hS hHe
  intro locs hS
  have hI0 := hI
  refine lv_iconst (v := iI 0) hx hb dX12_searches_0 (by decide +kernel) ?_
  refine lv_istore (lv' := [(4, .int (iI 0)), (0, .ref (q 0)), (1, .int (iI x1)), (2, .int (iI x2)), (3, .int (iI x3))]) hx hb dX12_searches_1 hl (by decide) rfl (fun ls hl => ?_)
  have L3_4 : ∀ (n6 : Nat) (z1 : Int) (A3 : St) (H : Heap) (locs : List Loc) (ls : Array Slot), (0 ≤ z1) → (0 ≤ z1 ∧ z1 ≤ 76832) → (Hd (∀ i : Nat, (i : Int) < z1 → A3 47 i = -1)) → ((76832 - z1 + 1).toNat = n6) → IM A3 → fr [47] [] A A3 → va_P (dC, dI) vwCl (WM cI cJ cZ q A3) H → va_S AS s.heap H locs → lv_has ls 5 [(4, .int (iI z1)), (0, .ref (q 0)), (1, .int (iI x1)), (2, .int (iI x2)), (3, .int (iI x3))] → W p l e (headSpec ws_mb_X12_searches ({ frames := 5, cells := 0, slots := 0, locals := 124 } : Room)).room s m [.ref (q 0), .int (iI x1), .int (iI x2), .int (iI x3)].toArray below meth c H locs 0 0 Q (F0 m 3 ls []) := by
    intro n6
    induction n6 using Nat.strongRecOn with
    | ind n6 ih5 =>
      intro z1 A3 H locs ls f7 f8 f9 hn6 hI hj2 hP hS hl
      refine lv_iload hx hb dX12_searches_3 (lv_at hl 0 rfl) ?_
      refine lv_ldc (v := 76832) hx hb hown (hts _ (List.mem_cons_of_mem _ (wl_in_7 _ (List.mem_of_getElem? (i := 1) rfl)))) dX12_searches_5 ?_
      refine tp_i (y := iI 76832) (by decide +kernel) ?_
      refine lv_icmp_ge (tgt := 24) hx hb dX12_searches_7 (by decide) (fun c10 => ?_) (fun c10 => ?_)
      · have c10 : 76832 ≤ z1 := (i_le ⟨by decide, by decide⟩ (rb f8 (by decide) (by decide))).mp c10
        refine lv_aload_n hx hb dX12_searches_24 rfl (lv_at hl 1 rfl) ?_
        refine lv_iconst (v := iI 0) hx hb dX12_searches_25 (by decide +kernel) ?_
        refine x_put (D := (dC, dI)) (ci := 12) (v := .int (iI 0)) (ty := .int) (C := RX12) (T := TX12) (N := 85) hx hb hts hiX12 tyX12 tyX12_ok nmX12 hown hK hP hDD hS 0 wm0 rfl 66 (by decide) (hts _ (List.mem_cons_of_mem _ (wl_in_6 _ (List.mem_of_getElem? (i := 53) rfl)))) (fun _ h9 => h9) rfl (by decide +kernel) rfl rfl (Nat.le_of_ble_eq_true rfl) dX12_searches_26 (wf66 (v := 0)) (fun H locs hP hS => ?_)
        have hI := hI.st (j := 0) (i := 66) (v := 0) (show (0 : Int) ≤ 0 ∧ 0 ≤ 76832 from (by omega))
        refine lv_aload_n hx hb dX12_searches_29 rfl (lv_at hl 1 rfl) ?_
        refine lv_iload_n hx hb dX12_searches_30 rfl (lv_at hl 2 rfl) ?_
        refine x_put (D := (dC, dI)) (ci := 12) (v := .int (iI x1)) (ty := .int) (C := RX12) (T := TX12) (N := 85) hx hb hts hiX12 tyX12 tyX12_ok nmX12 hown hK hP hDD hS 0 wm0 rfl 70 (by decide) (hts _ (List.mem_cons_of_mem _ (wl_in_7 _ (List.mem_of_getElem? (i := 2) rfl)))) (fun _ h9 => h9) rfl (by decide +kernel) rfl rfl (Nat.le_of_ble_eq_true rfl) dX12_searches_31 (wf70 (v := x1)) (fun H locs hP hS => ?_)
        have hI := hI.st (j := 0) (i := 70) (v := x1) (show (0 : Int) ≤ x1 ∧ x1 ≤ 2 from (by omega))
        refine lv_aload_n hx hb dX12_searches_34 rfl (lv_at hl 1 rfl) ?_
        refine lv_iload_n hx hb dX12_searches_35 rfl (lv_at hl 3 rfl) ?_
        refine x_put (D := (dC, dI)) (ci := 12) (v := .int (iI x2)) (ty := .int) (C := RX12) (T := TX12) (N := 85) hx hb hts hiX12 tyX12 tyX12_ok nmX12 hown hK hP hDD hS 0 wm0 rfl 71 (by decide) (hts _ (List.mem_cons_of_mem _ (wl_in_7 _ (List.mem_of_getElem? (i := 3) rfl)))) (fun _ h9 => h9) rfl (by decide +kernel) rfl rfl (Nat.le_of_ble_eq_true rfl) dX12_searches_36 (wf71 (v := x2)) (fun H locs hP hS => ?_)
        have hI := hI.st (j := 0) (i := 71) (v := x2) (show (-2147483648 : Int) ≤ x2 ∧ x2 ≤ 2147483647 from (by omega))
        refine lv_aload_n hx hb dX12_searches_39 rfl (lv_at hl 1 rfl) ?_
        refine lv_iconst (v := iI 0) hx hb dX12_searches_40 (by decide +kernel) ?_
        refine x_put (D := (dC, dI)) (ci := 12) (v := .int (iI 0)) (ty := .int) (C := RX12) (T := TX12) (N := 85) hx hb hts hiX12 tyX12 tyX12_ok nmX12 hown hK hP hDD hS 0 wm0 rfl 73 (by decide) (hts _ (List.mem_cons_of_mem _ (wl_in_6 _ (List.mem_of_getElem? (i := 48) rfl)))) (fun _ h9 => h9) rfl (by decide +kernel) rfl rfl (Nat.le_of_ble_eq_true rfl) dX12_searches_41 (wf73 (v := 0)) (fun H locs hP hS => ?_)
        have hI := hI.st (j := 0) (i := 73) (v := 0) (show (0 : Int) ≤ 0 ∧ 0 ≤ 2 from (by omega))
        refine lv_bipush (v := iI 6) hx hb dX12_searches_44 (by decide +kernel) ?_
        refine lv_aload_n hx hb dX12_searches_46 rfl (lv_at hl 1 rfl) ?_
        have e_A3_12 : A3 0 12 = (A 0 12) := (hj2.2 12 rfl)
        refine va_get (D := (dC, dI)) (ci := 12) (v := .int (iI (A3 0 12))) (C := RX12) (T := TX12) (N := 85) hx hb hts hiX12 hown hK hP 0 wm0 rfl 12 (by decide) (hts _ (List.mem_cons_of_mem _ (wl_in_4 _ (List.mem_of_getElem? (i := 14) rfl)))) (fun _ h9 => h9) rfl dX12_searches_47 ?_
        refine tp_i (y := iI (A 0 12)) (congrArg iI e_A3_12) ?_
        have r_A_0_12 : (0 : Int) ≤ (A 0 12) ∧ (A 0 12) ≤ 1 := by rw [← e_A3_12]; exact hI 0 12
        refine x_mulv (v := 6 * (A 0 12)) hx hb dX12_searches_50 (by omega) ?_
        refine lv_istore (lv' := [(4, .int (iI (6 * (A 0 12)))), (0, .ref (q 0)), (1, .int (iI x1)), (2, .int (iI x2)), (3, .int (iI x3))]) hx hb dX12_searches_51 hl (by decide) rfl (fun ls hl => ?_)
        obtain ⟨A11, hA11⟩ : ∃ A11 : St, A11 = (stA (stA (stA (stA A3 0 66 0) 0 70 x1) 0 71 x2) 0 73 0) := ⟨_, rfl⟩
        rw [← hA11] at hP hI
        have e_A11_73 : A11 0 73 = 0 := by rw [hA11]; rfl
        have L53_16 : ∀ (n18 : Nat) (z12 : Int) (A14 : St) (H : Heap) (locs : List Loc) (ls : Array Slot), (6 * (A 0 12) ≤ z12) → (0 ≤ z12 ∧ z12 ≤ 12) → (6 * (A 0 12) ≤ z12) → (Hd (x3 = 1 → (A14 0 73) = ct (A 23) (6 * (A 0 12)).toNat x1 (z12 - 6 * (A 0 12)).toNat)) → ((6 * (A 0 12) + A 22 ((A 0 12)).toNat - z12 + 1).toNat = n18) → IM A14 → fr [50] [73] A11 A14 → va_P (dC, dI) vwCl (WM cI cJ cZ q A14) H → va_S AS s.heap H locs → lv_has ls 5 [(4, .int (iI z12)), (0, .ref (q 0)), (1, .int (iI x1)), (2, .int (iI x2)), (3, .int (iI x3))] → W p l e (headSpec ws_mb_X12_searches ({ frames := 5, cells := 0, slots := 0, locals := 124 } : Room)).room s m [.ref (q 0), .int (iI x1), .int (iI x2), .int (iI x3)].toArray below meth c H locs 0 0 Q (F0 m 53 ls []) := by
          intro n18
          induction n18 using Nat.strongRecOn with
          | ind n18 ih17 =>
            intro z12 A14 H locs ls f19 f20 f21 f22 hn18 hI hj13 hP hS hl
            have r_A14_0_73 : (0 : Int) ≤ (A14 0 73) ∧ (A14 0 73) ≤ 2 := hI 0 73
            refine lv_iload hx hb dX12_searches_53 (lv_at hl 0 rfl) ?_
            refine lv_bipush (v := iI 6) hx hb dX12_searches_55 (by decide +kernel) ?_
            refine lv_aload_n hx hb dX12_searches_57 rfl (lv_at hl 1 rfl) ?_
            have e_A11_12 : A11 0 12 = (A 0 12) := by rw [hA11]; exact e_A3_12
            have e_A14_12 : A14 0 12 = (A 0 12) := (hj13.2 12 rfl).trans e_A11_12
            refine va_get (D := (dC, dI)) (ci := 12) (v := .int (iI (A14 0 12))) (C := RX12) (T := TX12) (N := 85) hx hb hts hiX12 hown hK hP 0 wm0 rfl 12 (by decide) (hts _ (List.mem_cons_of_mem _ (wl_in_4 _ (List.mem_of_getElem? (i := 14) rfl)))) (fun _ h9 => h9) rfl dX12_searches_58 ?_
            refine tp_i (y := iI (A 0 12)) (congrArg iI e_A14_12) ?_
            refine x_mulv (v := 6 * (A 0 12)) hx hb dX12_searches_61 (by omega) ?_
            refine lv_aload_n hx hb dX12_searches_62 rfl (lv_at hl 1 rfl) ?_
            refine va_get (D := (dC, dI)) (ci := 12) (v := .ref (q 22)) (C := RX12) (T := TX12) (N := 85) hx hb hts hiX12 hown hK hP 0 wm0 rfl 33 (by decide) (hts _ (List.mem_cons_of_mem _ (wl_in_3 _ (List.mem_of_getElem? (i := 16) rfl)))) (fun _ h9 => h9) rfl dX12_searches_63 ?_
            refine lv_aload_n hx hb dX12_searches_66 rfl (lv_at hl 1 rfl) ?_
            refine va_get (D := (dC, dI)) (ci := 12) (v := .int (iI (A14 0 12))) (C := RX12) (T := TX12) (N := 85) hx hb hts hiX12 hown hK hP 0 wm0 rfl 12 (by decide) (hts _ (List.mem_cons_of_mem _ (wl_in_4 _ (List.mem_of_getElem? (i := 14) rfl)))) (fun _ h9 => h9) rfl dX12_searches_67 ?_
            refine tp_i (y := iI (A 0 12)) (congrArg iI e_A14_12) ?_
            have a_A3_22 : A3 22 = A 22 := (hj2.1 22 (by decide) rfl)
            have a_A11_22 : A11 22 = A 22 := by rw [hA11]; exact a_A3_22
            have a_A14_22 : A14 22 = A 22 := (hj13.1 22 (by decide) rfl).trans a_A11_22
            refine x_iald hx hb hK hP 22 1 wm22 rfl (by omega) (by decide) dX12_searches_70 (fun z23 hz23 => ?_)
            have rz23 : (0 : Int) ≤ z23 ∧ z23 ≤ 6 := by rw [hz23]; exact hI 22 _
            have hz23 : z23 = A 22 ((A 0 12)).toNat := hz23.trans (congrFun a_A14_22 _)
            refine x_addv (v := 6 * (A 0 12) + z23) hx hb dX12_searches_71 (by omega) ?_
            have J125_25 : ∀ (H : Heap) (locs : List Loc) (ls : Array Slot), va_P (dC, dI) vwCl (WM cI cJ cZ q A14) H → va_S AS s.heap H locs → lv_has ls 5 [(4, .int (iI z12)), (0, .ref (q 0)), (1, .int (iI x1)), (2, .int (iI x2)), (3, .int (iI x3))] → W p l e (headSpec ws_mb_X12_searches ({ frames := 5, cells := 0, slots := 0, locals := 124 } : Room)).room s m [.ref (q 0), .int (iI x1), .int (iI x2), .int (iI x3)].toArray below meth c H locs 0 0 Q (F0 m 125 ls []) := by
              intro H locs ls hP hS hl
              refine lv_aload_n hx hb dX12_searches_125 rfl (lv_at hl 1 rfl) ?_
              refine lv_aload_n hx hb dX12_searches_126 rfl (lv_at hl 1 rfl) ?_
              refine lv_iload_n hx hb dX12_searches_127 rfl (lv_at hl 2 rfl) ?_
              refine x_calli (As := [.int (iI x1)]) (rest := [.ref (q 0)]) ⟨hx, hb, hml, hown, hts⟩ (mc_X12_placeOf l dC dI cB cI cJ cZ cQ q _ x1 hI hx1) (cwV 1 hts (goodV (wl_in_5 _ (List.mem_of_getElem? (i := 35) rfl)) (wl_in_5 _ (List.mem_of_getElem? (i := 36) rfl)) (wl_in_5 _ (List.mem_of_getElem? (i := 37) rfl)) (wl_in_0 _ (List.mem_of_getElem? (i := 8) rfl)) (wl_in_5 _ (List.mem_of_getElem? (i := 25) rfl))) rfl rfl rfl (by decide +kernel) ⟨Nat.le_of_ble_eq_true rfl, Nat.le_of_ble_eq_true rfl⟩) hK hDD hA0 hP hS 0 12 wm0 rfl rfl hl.1 (Nat.le_of_ble_eq_true rfl) dX12_searches_128 (fun z32 A33 H locs hw34 hP hS => ?_)
              obtain ⟨rfl, hw34⟩ := hw34
              refine x_put (D := (dC, dI)) (ci := 12) (v := .int (iI z32)) (ty := .int) (C := RX12) (T := TX12) (N := 85) hx hb hts hiX12 tyX12 tyX12_ok nmX12 hown hK hP hDD hS 0 wm0 rfl 67 (by decide) (hts _ (List.mem_cons_of_mem _ (wl_in_6 _ (List.mem_of_getElem? (i := 38) rfl)))) (fun _ h9 => h9) rfl (by decide +kernel) rfl rfl (Nat.le_of_ble_eq_true rfl) dX12_searches_131 (wf67 (v := z32)) (fun H locs hP hS => ?_)
              have hI := hI.st (j := 0) (i := 67) (v := z32) (show (0 : Int) ≤ z32 ∧ z32 ≤ 7 from (by omega))
              refine lv_iconst (v := iI 0) hx hb dX12_searches_134 (by decide +kernel) ?_
              refine lv_istore (lv' := [(4, .int (iI 0)), (0, .ref (q 0)), (1, .int (iI x1)), (2, .int (iI x2)), (3, .int (iI x3))]) hx hb dX12_searches_135 hl (by decide) rfl (fun ls hl => ?_)
              obtain ⟨A35, hA35⟩ : ∃ A35 : St, A35 = (stA A14 0 67 z32) := ⟨_, rfl⟩
              rw [← hA35] at hP hI
              have L137_39 : ∀ (n41 : Nat) (z36 : Int) (A38 : St) (H : Heap) (locs : List Loc) (ls : Array Slot), (0 ≤ z36) → (0 ≤ z36 ∧ z36 ≤ 4) → ((4 - z36 + 1).toNat = n41) → IM A38 → fr [49] [] A35 A38 → va_P (dC, dI) vwCl (WM cI cJ cZ q A38) H → va_S AS s.heap H locs → lv_has ls 5 [(4, .int (iI z36)), (0, .ref (q 0)), (1, .int (iI x1)), (2, .int (iI x2)), (3, .int (iI x3))] → W p l e (headSpec ws_mb_X12_searches ({ frames := 5, cells := 0, slots := 0, locals := 124 } : Room)).room s m [.ref (q 0), .int (iI x1), .int (iI x2), .int (iI x3)].toArray below meth c H locs 0 0 Q (F0 m 137 ls []) := by
                intro n41
                induction n41 using Nat.strongRecOn with
                | ind n41 ih40 =>
                  intro z36 A38 H locs ls f42 f43 hn41 hI hj37 hP hS hl
                  refine lv_iload hx hb dX12_searches_137 (lv_at hl 0 rfl) ?_
                  refine lv_iconst (v := iI 4) hx hb dX12_searches_139 (by decide +kernel) ?_
                  refine lv_icmp_ge (tgt := 185) hx hb dX12_searches_140 (by decide) (fun c44 => ?_) (fun c44 => ?_)
                  · have c44 : 4 ≤ z36 := (i_le ⟨by decide, by decide⟩ (rb f43 (by decide) (by decide))).mp c44
                    refine lv_aload_n hx hb dX12_searches_185 rfl (lv_at hl 1 rfl) ?_
                    refine lv_iconst (v := iI 0) hx hb dX12_searches_186 (by decide +kernel) ?_
                    refine x_put (D := (dC, dI)) (ci := 12) (v := .int (iI 0)) (ty := .int) (C := RX12) (T := TX12) (N := 85) hx hb hts hiX12 tyX12 tyX12_ok nmX12 hown hK hP hDD hS 0 wm0 rfl 69 (by decide) (hts _ (List.mem_cons_of_mem _ (wl_in_6 _ (List.mem_of_getElem? (i := 40) rfl)))) (fun _ h9 => h9) rfl (by decide +kernel) rfl rfl (Nat.le_of_ble_eq_true rfl) dX12_searches_187 (wf69 (v := 0)) (fun H locs hP hS => ?_)
                    have hI := hI.st (j := 0) (i := 69) (v := 0) (show (0 : Int) ≤ 0 ∧ 0 ≤ 3 from (by omega))
                    refine lv_aload_n hx hb dX12_searches_190 rfl (lv_at hl 1 rfl) ?_
                    refine lv_iconst (v := iI 0) hx hb dX12_searches_191 (by decide +kernel) ?_
                    obtain ⟨A45, hA45⟩ : ∃ A45 : St, A45 = (stA A38 0 69 0) := ⟨_, rfl⟩
                    rw [← hA45] at hP hI
                    have e_A11_66 : A11 0 66 = 0 := by rw [hA11]; rfl
                    have e_A14_66 : A14 0 66 = 0 := (hj13.2 66 rfl).trans e_A11_66
                    have e_A35_66 : A35 0 66 = 0 := by rw [hA35]; exact e_A14_66
                    have e_A38_66 : A38 0 66 = 0 := (hj37.2 66 rfl).trans e_A35_66
                    have e_A45_66 : A45 0 66 = 0 := by rw [hA45]; exact e_A38_66
                    have ca46 : A11 47 = A3 47 := by rw [hA11]; exact rfl
                    have ca47 : A14 47 = A3 47 := (hj13.1 47 (by decide) rfl).trans ca46
                    have ca48 : A35 47 = A3 47 := by rw [hA35]; exact ca47
                    have ca49 : A38 47 = A3 47 := (hj37.1 47 (by decide) rfl).trans ca48
                    have ca50 : A45 47 = A3 47 := by rw [hA45]; exact ca49
                    have hqi : QI A45 := QI.start (fun i hi => by rw [ca50]; exact f9.out i (by omega)) (by omega)
                    refine x_callv (As := [.int (iI 0)]) (rest := []) ⟨hx, hb, hml, hown, hts⟩ (mc_X12_comes l dC dI cB cI cJ cZ cQ q _ 0 hI ⟨by decide, by decide⟩ (by exact hqi) (by omega)) (cwV 1 hts (goodV (wl_in_7 _ (List.mem_of_getElem? (i := 4) rfl)) (wl_in_7 _ (List.mem_of_getElem? (i := 5) rfl)) (wl_in_7 _ (List.mem_of_getElem? (i := 6) rfl)) (wl_in_0 _ (List.mem_of_getElem? (i := 8) rfl)) (wl_in_6 _ (List.mem_of_getElem? (i := 50) rfl))) rfl rfl rfl (by decide +kernel) ⟨Nat.le_of_ble_eq_true rfl, Nat.le_of_ble_eq_true rfl⟩) hK hDD hA0 hP hS 0 12 wm0 rfl rfl hl.1 (Nat.le_of_ble_eq_true rfl) dX12_searches_192 (fun A51 H locs hw52 hP hS => ?_)
                    obtain ⟨hI, hf53, hw52⟩ := hw52
                    have r_A51_0_66 : (0 : Int) ≤ (A51 0 66) ∧ (A51 0 66) ≤ 76832 := hI 0 66
                    refine lv_iconst (v := iI 0) hx hb dX12_searches_195 (by decide +kernel) ?_
                    refine lv_istore (lv' := [(4, .int (iI 0)), (0, .ref (q 0)), (1, .int (iI x1)), (2, .int (iI x2)), (3, .int (iI x3))]) hx hb dX12_searches_196 hl (by decide) rfl (fun ls hl => ?_)
                    have L198_57 : ∀ (n59 : Nat) (z54 : Int) (A56 : St) (H : Heap) (locs : List Loc) (ls : Array Slot), (0 ≤ z54) → (0 ≤ z54 ∧ z54 ≤ 76832) → (z54 ≤ (A56 0 66)) → (QI A56) → ((76832 - z54).toNat = n59) → IM A56 → fr [42, 43, 47, 48, 49] [66, 67, 69] A51 A56 → va_P (dC, dI) vwCl (WM cI cJ cZ q A56) H → va_S AS s.heap H locs → lv_has ls 5 [(4, .int (iI z54)), (0, .ref (q 0)), (1, .int (iI x1)), (2, .int (iI x2)), (3, .int (iI x3))] → W p l e (headSpec ws_mb_X12_searches ({ frames := 5, cells := 0, slots := 0, locals := 124 } : Room)).room s m [.ref (q 0), .int (iI x1), .int (iI x2), .int (iI x3)].toArray below meth c H locs 0 0 Q (F0 m 198 ls []) := by
                      intro n59
                      induction n59 using Nat.strongRecOn with
                      | ind n59 ih58 =>
                        intro z54 A56 H locs ls f60 f61 f62 hc63 hn59 hI hj55 hP hS hl
                        have r_A56_0_66 : (0 : Int) ≤ (A56 0 66) ∧ (A56 0 66) ≤ 76832 := hI 0 66
                        refine lv_iload hx hb dX12_searches_198 (lv_at hl 0 rfl) ?_
                        refine lv_aload_n hx hb dX12_searches_200 rfl (lv_at hl 1 rfl) ?_
                        refine va_get (D := (dC, dI)) (ci := 12) (v := .int (iI (A56 0 66))) (C := RX12) (T := TX12) (N := 85) hx hb hts hiX12 hown hK hP 0 wm0 rfl 66 (by decide) (hts _ (List.mem_cons_of_mem _ (wl_in_6 _ (List.mem_of_getElem? (i := 53) rfl)))) (fun _ h9 => h9) rfl dX12_searches_201 ?_
                        refine lv_icmp_ge (tgt := 224) hx hb dX12_searches_204 (by decide) (fun c64 => ?_) (fun c64 => ?_)
                        · have c64 : (A56 0 66) ≤ z54 := (i_le (rb r_A56_0_66 (by decide) (by decide)) (rb f61 (by decide) (by decide))).mp c64
                          exact RET _ _ _ _ _ ⟨hI, fr.trans (fr.trans (fr_def hA45 (fr.sf (fr.trans (fr_def hA35 (fr.sf (fr.trans (fr_def hA11 (fr.sf (fr.sf (fr.sf (fr.sf (fr.trans (fr.rf) hj2 rfl rfl) rfl) rfl) rfl) rfl)) hj13 rfl rfl) rfl)) hj37 rfl rfl) rfl)) hf53 rfl rfl) hj55 rfl rfl, (CI.fr (CI.fr (CI.fr (CI.fr (CI.fr (CI.fr (CI.fr (CI.fr hcCI hj2 rfl rfl) (fr_def hA11 (fr.sf (fr.sf (fr.sf (fr.sf (fr.rf (M := []) (N := [66, 70, 71, 73])) rfl) rfl) rfl) rfl)) rfl rfl) hj13 rfl rfl) (fr_def hA35 (fr.sf (fr.rf (M := []) (N := [67])) rfl)) rfl rfl) hj37 rfl rfl) (fr_def hA45 (fr.sf (fr.rf (M := []) (N := [69])) rfl)) rfl rfl) hf53 rfl rfl) hj55 rfl rfl), (WI.fr (WI.fr (WI.fr (WI.fr (WI.fr (WI.fr (WI.fr (WI.fr hcWI hj2 rfl rfl) (fr_def hA11 (fr.sf (fr.sf (fr.sf (fr.sf (fr.rf (M := []) (N := [66, 70, 71, 73])) rfl) rfl) rfl) rfl)) rfl rfl) hj13 rfl rfl) (fr_def hA35 (fr.sf (fr.rf (M := []) (N := [67])) rfl)) rfl rfl) hj37 rfl rfl) (fr_def hA45 (fr.sf (fr.rf (M := []) (N := [69])) rfl)) rfl rfl) hf53 rfl rfl) hj55 rfl rfl), trivial⟩ hP hS dX12_searches_224
                        · have c64 : ¬ (A56 0 66) ≤ z54 := mt (i_le (rb r_A56_0_66 (by decide) (by decide)) (rb f61 (by decide) (by decide))).mpr c64
                          refine lv_aload_n hx hb dX12_searches_207 rfl (lv_at hl 1 rfl) ?_
                          refine lv_aload_n hx hb dX12_searches_208 rfl (lv_at hl 1 rfl) ?_
                          refine va_get (D := (dC, dI)) (ci := 12) (v := .ref (q 48)) (C := RX12) (T := TX12) (N := 85) hx hb hts hiX12 hown hK hP 0 wm0 rfl 65 (by decide) (hts _ (List.mem_cons_of_mem _ (wl_in_6 _ (List.mem_of_getElem? (i := 52) rfl)))) (fun _ h9 => h9) rfl dX12_searches_209 ?_
                          refine lv_iload hx hb dX12_searches_212 (lv_at hl 0 rfl) ?_
                          refine x_iald hx hb hK hP 48 1 wm48 rfl (by omega) (by decide) dX12_searches_214 (fun z65 hz65 => ?_)
                          have rz65 : (0 : Int) ≤ z65 ∧ z65 ≤ 76831 := by rw [hz65]; exact hI 48 _
                          have hz65 : z65 = A56 48 (z54).toNat := hz65
                          have gq := (hc63).2 (z54).toNat (by omega)
                          rw [show A56 48 (z54).toNat = z65 by exact hz65.symm] at gq
                          refine x_callv (As := [.int (iI z65)]) (rest := []) ⟨hx, hb, hml, hown, hts⟩ (mb_X12_goesOn_ l dC dI cB cI cJ cZ cQ q _ z65 hI rz65 (by exact gq.1) (by omega) (CI.fr (CI.fr (CI.fr (CI.fr (CI.fr (CI.fr (CI.fr (CI.fr hcCI hj2 rfl rfl) (fr_def hA11 (fr.sf (fr.sf (fr.sf (fr.sf (fr.rf (M := []) (N := [66, 70, 71, 73])) rfl) rfl) rfl) rfl)) rfl rfl) hj13 rfl rfl) (fr_def hA35 (fr.sf (fr.rf (M := []) (N := [67])) rfl)) rfl rfl) hj37 rfl rfl) (fr_def hA45 (fr.sf (fr.rf (M := []) (N := [69])) rfl)) rfl rfl) hf53 rfl rfl) hj55 rfl rfl) hc63) (cwV 1 hts (goodV (wl_in_7 _ (List.mem_of_getElem? (i := 7) rfl)) (wl_in_7 _ (List.mem_of_getElem? (i := 8) rfl)) (wl_in_7 _ (List.mem_of_getElem? (i := 9) rfl)) (wl_in_0 _ (List.mem_of_getElem? (i := 8) rfl)) (wl_in_7 _ (List.mem_of_getElem? (i := 10) rfl))) rfl rfl rfl (by decide +kernel) ⟨Nat.le_of_ble_eq_true rfl, Nat.le_of_ble_eq_true rfl⟩) hK hDD hA0 hP hS 0 12 wm0 rfl rfl hl.1 (Nat.le_of_ble_eq_true rfl) dX12_searches_215 (fun A66 H locs hw67 hP hS => ?_)
                          obtain ⟨hI, hf68, hw67⟩ := hw67
                          obtain ⟨hc69, hw67⟩ := hw67
                          obtain ⟨hc70, hw67⟩ := hw67
                          have r_A66_0_66 : (0 : Int) ≤ (A66 0 66) ∧ (A66 0 66) ≤ 76832 := hI 0 66
                          refine lv_iinc (v := iI (z54 + 1)) (lv' := [(4, .int (iI (z54 + 1))), (0, .ref (q 0)), (1, .int (iI x1)), (2, .int (iI x2)), (3, .int (iI x3))]) hx hb dX12_searches_218 hl (k := 0) rfl (i_inc (by omega)) (by decide) rfl (fun ls hl => ?_)
                          refine lv_goto (tgt := 198) hx hb dX12_searches_221 (by decide) ?_
                          exact ih58 _ (by omega) (z54 + 1) _ _ _ _ (by omega) (by omega) (by omega) hc70 rfl hI (fr.trans (fr.trans (fr.rf) hj55 rfl rfl) hf68 rfl rfl) hP hS (lv_sub hl [0, 1, 2, 3, 4] rfl)
                    exact L198_57 _ 0 _ _ _ _ (by omega) (by omega) (by omega) hw52.1 rfl hI (fr.rf) hP hS (lv_sub hl [0, 1, 2, 3, 4] rfl)
                  · have c44 : ¬ 4 ≤ z36 := mt (i_le ⟨by decide, by decide⟩ (rb f43 (by decide) (by decide))).mpr c44
                    refine lv_aload_n hx hb dX12_searches_143 rfl (lv_at hl 1 rfl) ?_
                    refine va_get (D := (dC, dI)) (ci := 12) (v := .ref (q 49)) (C := RX12) (T := TX12) (N := 85) hx hb hts hiX12 hown hK hP 0 wm0 rfl 68 (by decide) (hts _ (List.mem_cons_of_mem _ (wl_in_6 _ (List.mem_of_getElem? (i := 39) rfl)))) (fun _ h9 => h9) rfl dX12_searches_144 ?_
                    refine lv_iload hx hb dX12_searches_147 (lv_at hl 0 rfl) ?_
                    refine lv_iload hx hb dX12_searches_149 (lv_at hl 0 rfl) ?_
                    refine lv_aload_n hx hb dX12_searches_151 rfl (lv_at hl 1 rfl) ?_
                    refine va_get (D := (dC, dI)) (ci := 12) (v := .ref (q 11)) (C := RX12) (T := TX12) (N := 85) hx hb hts hiX12 hown hK hP 0 wm0 rfl 22 (by decide) (hts _ (List.mem_cons_of_mem _ (wl_in_1 _ (List.mem_of_getElem? (i := 14) rfl)))) (fun _ h9 => h9) rfl dX12_searches_152 ?_
                    refine lv_aload_n hx hb dX12_searches_155 rfl (lv_at hl 1 rfl) ?_
                    have e_A35_12 : A35 0 12 = (A 0 12) := by rw [hA35]; exact e_A14_12
                    have e_A38_12 : A38 0 12 = (A 0 12) := (hj37.2 12 rfl).trans e_A35_12
                    refine va_get (D := (dC, dI)) (ci := 12) (v := .int (iI (A38 0 12))) (C := RX12) (T := TX12) (N := 85) hx hb hts hiX12 hown hK hP 0 wm0 rfl 12 (by decide) (hts _ (List.mem_cons_of_mem _ (wl_in_4 _ (List.mem_of_getElem? (i := 14) rfl)))) (fun _ h9 => h9) rfl dX12_searches_156 ?_
                    refine tp_i (y := iI (A 0 12)) (congrArg iI e_A38_12) ?_
                    have a_A3_11 : A3 11 = A 11 := (hj2.1 11 (by decide) rfl)
                    have a_A11_11 : A11 11 = A 11 := by rw [hA11]; exact a_A3_11
                    have a_A14_11 : A14 11 = A 11 := (hj13.1 11 (by decide) rfl).trans a_A11_11
                    have a_A35_11 : A35 11 = A 11 := by rw [hA35]; exact a_A14_11
                    have a_A38_11 : A38 11 = A 11 := (hj37.1 11 (by decide) rfl).trans a_A35_11
                    refine x_iald hx hb hK hP 11 1 wm11 rfl (by omega) (by decide) dX12_searches_159 (fun z71 hz71 => ?_)
                    have rz71 : (0 : Int) ≤ z71 ∧ z71 ≤ 4 := by rw [hz71]; exact hI 11 _
                    have hz71 : z71 = A 11 ((A 0 12)).toNat := hz71.trans (congrFun a_A38_11 _)
                    have J178_73 : ∀ (z78 : Int) (H : Heap) (locs : List Loc) (ls : Array Slot), (0 ≤ z78 ∧ z78 ≤ 6) → va_P (dC, dI) vwCl (WM cI cJ cZ q A38) H → va_S AS s.heap H locs → lv_has ls 5 [(4, .int (iI z36)), (0, .ref (q 0)), (1, .int (iI x1)), (2, .int (iI x2)), (3, .int (iI x3))] → W p l e (headSpec ws_mb_X12_searches ({ frames := 5, cells := 0, slots := 0, locals := 124 } : Room)).room s m [.ref (q 0), .int (iI x1), .int (iI x2), .int (iI x3)].toArray below meth c H locs 0 0 Q (F0 m 178 ls [.int (iI z78), .int (iI z36), .ref (q 49)]) := by
                      intro z78 H locs ls f80 hP hS hl
                      refine x_iast hx hb hK hP hDD hS 49 1 wm49 rfl (by omega) (by decide) dX12_searches_178 ws49 (fun H locs hP hS => ?_)
                      have hI := hI.st (j := 49) (i := (z36).toNat) (v := z78) (show (0 : Int) ≤ z78 ∧ z78 ≤ 6 from (by omega))
                      refine lv_iinc (v := iI (z36 + 1)) (lv' := [(4, .int (iI (z36 + 1))), (0, .ref (q 0)), (1, .int (iI x1)), (2, .int (iI x2)), (3, .int (iI x3))]) hx hb dX12_searches_179 hl (k := 0) rfl (i_inc (by omega)) (by decide) rfl (fun ls hl => ?_)
                      refine lv_goto (tgt := 137) hx hb dX12_searches_182 (by decide) ?_
                      obtain ⟨A81, hA81⟩ : ∃ A81 : St, A81 = (stA A38 49 (z36).toNat z78) := ⟨_, rfl⟩
                      rw [← hA81] at hP hI
                      exact ih40 _ (by omega) (z36 + 1) _ _ _ _ (by omega) (by omega) rfl hI (fr_def hA81 (fr.st (fr.trans (fr.rf) hj37 rfl rfl) (by decide) rfl)) hP hS (lv_sub hl [0, 1, 2, 3, 4] rfl)
                    refine lv_icmp_ge (tgt := 177) hx hb dX12_searches_160 (by decide) (fun c72 => ?_) (fun c72 => ?_)
                    · have c72 : z71 ≤ z36 := (i_le (rb rz71 (by decide) (by decide)) (rb f43 (by decide) (by decide))).mp c72
                      refine lv_iconst (v := iI 0) hx hb dX12_searches_177 (by decide +kernel) ?_
                      exact J178_73 0 _ _ _ (by omega) hP hS (lv_sub hl [0, 1, 2, 3, 4] rfl)
                    · have c72 : ¬ z71 ≤ z36 := mt (i_le (rb rz71 (by decide) (by decide)) (rb f43 (by decide) (by decide))).mpr c72
                      refine lv_aload_n hx hb dX12_searches_163 rfl (lv_at hl 1 rfl) ?_
                      refine va_get (D := (dC, dI)) (ci := 12) (v := .ref (q 14)) (C := RX12) (T := TX12) (N := 85) hx hb hts hiX12 hown hK hP 0 wm0 rfl 25 (by decide) (hts _ (List.mem_cons_of_mem _ (wl_in_2 _ (List.mem_of_getElem? (i := 59) rfl)))) (fun _ h9 => h9) rfl dX12_searches_164 ?_
                      refine lv_aload_n hx hb dX12_searches_167 rfl (lv_at hl 1 rfl) ?_
                      refine lv_iload hx hb dX12_searches_168 (lv_at hl 0 rfl) ?_
                      refine x_calli (As := [.int (iI z36)]) (rest := [.ref (q 14), .int (iI z36), .ref (q 49)]) ⟨hx, hb, hml, hown, hts⟩ (mc_X12_key4 l dC dI cB cI cJ cZ cQ q _ z36 hI (by omega)) (cwV 1 hts (goodV (wl_in_4 _ (List.mem_of_getElem? (i := 44) rfl)) (wl_in_4 _ (List.mem_of_getElem? (i := 45) rfl)) (wl_in_4 _ (List.mem_of_getElem? (i := 46) rfl)) (wl_in_0 _ (List.mem_of_getElem? (i := 8) rfl)) (wl_in_4 _ (List.mem_of_getElem? (i := 41) rfl))) rfl rfl rfl (by decide +kernel) ⟨Nat.le_of_ble_eq_true rfl, Nat.le_of_ble_eq_true rfl⟩) hK hDD hA0 hP hS 0 12 wm0 rfl rfl hl.1 (Nat.le_of_ble_eq_true rfl) dX12_searches_170 (fun z74 A75 H locs hw76 hP hS => ?_)
                      obtain ⟨rfl, hw76⟩ := hw76
                      refine tp_i (y := iI (4 * (A 0 12) + z36)) (congrArg iI (show z74 = 4 * (A 0 12) + z36 by omega)) ?_
                      clear hw76 z74
                      have a_A3_14 : A3 14 = A 14 := (hj2.1 14 (by decide) rfl)
                      have a_A11_14 : A11 14 = A 14 := by rw [hA11]; exact a_A3_14
                      have a_A14_14 : A14 14 = A 14 := (hj13.1 14 (by decide) rfl).trans a_A11_14
                      have a_A35_14 : A35 14 = A 14 := by rw [hA35]; exact a_A14_14
                      have a_A38_14 : A38 14 = A 14 := (hj37.1 14 (by decide) rfl).trans a_A35_14
                      refine x_iald hx hb hK hP 14 1 wm14 rfl (by omega) (by decide) dX12_searches_173 (fun z77 hz77 => ?_)
                      have rz77 : (0 : Int) ≤ z77 ∧ z77 ≤ 6 := by rw [hz77]; exact hI 14 _
                      have hz77 : z77 = A 14 (4 * (A 0 12) + z36).toNat := hz77.trans (congrFun a_A38_14 _)
                      refine lv_goto (tgt := 178) hx hb dX12_searches_174 (by decide) ?_
                      exact J178_73 z77 _ _ _ (by omega) hP hS (lv_sub hl [0, 1, 2, 3, 4] rfl)
              exact L137_39 _ 0 _ _ _ _ (by omega) (by omega) rfl hI (fr.rf) hP hS (lv_sub hl [0, 1, 2, 3, 4] rfl)
            refine lv_icmp_ge (tgt := 125) hx hb dX12_searches_72 (by decide) (fun c24 => ?_) (fun c24 => ?_)
            · have c24 : 6 * (A 0 12) + z23 ≤ z12 := (i_le (by omega) (rb f20 (by decide) (by decide))).mp c24
              exact J125_25 _ _ _ hP hS (lv_sub hl [0, 1, 2, 3, 4] rfl)
            · have c24 : ¬ 6 * (A 0 12) + z23 ≤ z12 := mt (i_le (by omega) (rb f20 (by decide) (by decide))).mpr c24
              refine lv_iload_n hx hb dX12_searches_75 rfl (lv_at hl 4 rfl) ?_
              refine lv_if_eq (tgt := 125) hx hb dX12_searches_76 (by decide) (fun c26 => ?_) (fun c26 => ?_)
              · have c26 : x3 = 0 := (i_eq0 (rb hx3 (by decide) (by decide))).mp c26
                exact J125_25 _ _ _ hP hS (lv_sub hl [0, 1, 2, 3, 4] rfl)
              · have c26 : ¬ x3 = 0 := mt (i_eq0 (rb hx3 (by decide) (by decide))).mpr c26
                refine lv_aload_n hx hb dX12_searches_79 rfl (lv_at hl 1 rfl) ?_
                refine va_get (D := (dC, dI)) (ci := 12) (v := .ref (q 23)) (C := RX12) (T := TX12) (N := 85) hx hb hts hiX12 hown hK hP 0 wm0 rfl 34 (by decide) (hts _ (List.mem_cons_of_mem _ (wl_in_3 _ (List.mem_of_getElem? (i := 17) rfl)))) (fun _ h9 => h9) rfl dX12_searches_80 ?_
                refine lv_iload hx hb dX12_searches_83 (lv_at hl 0 rfl) ?_
                have a_A3_23 : A3 23 = A 23 := (hj2.1 23 (by decide) rfl)
                have a_A11_23 : A11 23 = A 23 := by rw [hA11]; exact a_A3_23
                have a_A14_23 : A14 23 = A 23 := (hj13.1 23 (by decide) rfl).trans a_A11_23
                refine x_iald hx hb hK hP 23 1 wm23 rfl (by omega) (by decide) dX12_searches_85 (fun z27 hz27 => ?_)
                have rz27 : (0 : Int) ≤ z27 ∧ z27 ≤ 2 := by rw [hz27]; exact hI 23 _
                have hz27 : z27 = A 23 (z12).toNat := hz27.trans (congrFun a_A14_23 _)
                refine lv_iload_n hx hb dX12_searches_86 rfl (lv_at hl 2 rfl) ?_
                refine lv_icmp_eq (tgt := 93) hx hb dX12_searches_87 (by decide) (fun c28 => ?_) (fun c28 => ?_)
                · have c28 : z27 = x1 := (i_eq (rb rz27 (by decide) (by decide)) (rb hx1 (by decide) (by decide))).mp c28
                  have gw := WI.two hcWI hI0 (k := z12) (p := x1) (by omega) (f22.out (by omega)) (by rw [← hz27]; omega)
                  refine lv_aload_n hx hb dX12_searches_93 rfl (lv_at hl 1 rfl) ?_
                  refine va_get (D := (dC, dI)) (ci := 12) (v := .ref (q 50)) (C := RX12) (T := TX12) (N := 85) hx hb hts hiX12 hown hK hP 0 wm0 rfl 72 (by decide) (hts _ (List.mem_cons_of_mem _ (wl_in_6 _ (List.mem_of_getElem? (i := 49) rfl)))) (fun _ h9 => h9) rfl dX12_searches_94 ?_
                  refine lv_aload_n hx hb dX12_searches_97 rfl (lv_at hl 1 rfl) ?_
                  refine va_get (D := (dC, dI)) (ci := 12) (v := .int (iI (A14 0 73))) (C := RX12) (T := TX12) (N := 85) hx hb hts hiX12 hown hK hP 0 wm0 rfl 73 (by decide) (hts _ (List.mem_cons_of_mem _ (wl_in_6 _ (List.mem_of_getElem? (i := 48) rfl)))) (fun _ h9 => h9) rfl dX12_searches_98 ?_
                  refine lv_aload_n hx hb dX12_searches_101 rfl (lv_at hl 1 rfl) ?_
                  refine va_get (D := (dC, dI)) (ci := 12) (v := .ref (q 24)) (C := RX12) (T := TX12) (N := 85) hx hb hts hiX12 hown hK hP 0 wm0 rfl 35 (by decide) (hts _ (List.mem_cons_of_mem _ (wl_in_3 _ (List.mem_of_getElem? (i := 18) rfl)))) (fun _ h9 => h9) rfl dX12_searches_102 ?_
                  refine lv_iload hx hb dX12_searches_105 (lv_at hl 0 rfl) ?_
                  have a_A3_24 : A3 24 = A 24 := (hj2.1 24 (by decide) rfl)
                  have a_A11_24 : A11 24 = A 24 := by rw [hA11]; exact a_A3_24
                  have a_A14_24 : A14 24 = A 24 := (hj13.1 24 (by decide) rfl).trans a_A11_24
                  refine x_iald hx hb hK hP 24 1 wm24 rfl (by omega) (by decide) dX12_searches_107 (fun z29 hz29 => ?_)
                  have rz29 : (0 : Int) ≤ z29 ∧ z29 ≤ 3 := by rw [hz29]; exact hI 24 _
                  have hz29 : z29 = A 24 (z12).toNat := hz29.trans (congrFun a_A14_24 _)
                  refine x_iast hx hb hK hP hDD hS 50 1 wm50 rfl (by omega) (by decide) dX12_searches_108 ws50 (fun H locs hP hS => ?_)
                  have hI := hI.st (j := 50) (i := ((A14 0 73)).toNat) (v := z29) (show (0 : Int) ≤ z29 ∧ z29 ≤ 3 from (by omega))
                  refine lv_aload_n hx hb dX12_searches_109 rfl (lv_at hl 1 rfl) ?_
                  refine lv_dup hx hb dX12_searches_110 rfl ?_
                  refine va_get (D := (dC, dI)) (ci := 12) (v := .int (iI (A14 0 73))) (C := RX12) (T := TX12) (N := 85) hx hb hts hiX12 hown hK hP 0 wm0 rfl 73 (by decide) (hts _ (List.mem_cons_of_mem _ (wl_in_6 _ (List.mem_of_getElem? (i := 48) rfl)))) (fun _ h9 => h9) rfl dX12_searches_111 ?_
                  refine lv_iconst (v := iI 1) hx hb dX12_searches_114 (by decide +kernel) ?_
                  refine x_addv (v := (A14 0 73) + 1) hx hb dX12_searches_115 (by omega) ?_
                  refine x_put (D := (dC, dI)) (ci := 12) (v := .int (iI ((A14 0 73) + 1))) (ty := .int) (C := RX12) (T := TX12) (N := 85) hx hb hts hiX12 tyX12 tyX12_ok nmX12 hown hK hP hDD hS 0 wm0 rfl 73 (by decide) (hts _ (List.mem_cons_of_mem _ (wl_in_6 _ (List.mem_of_getElem? (i := 48) rfl)))) (fun _ h9 => h9) rfl (by decide +kernel) rfl rfl (Nat.le_of_ble_eq_true rfl) dX12_searches_116 (wf73 (v := (A14 0 73) + 1)) (fun H locs hP hS => ?_)
                  have hI := hI.st (j := 0) (i := 73) (v := (A14 0 73) + 1) (show (0 : Int) ≤ (A14 0 73) + 1 ∧ (A14 0 73) + 1 ≤ 2 from (by omega))
                  refine lv_iinc (v := iI (z12 + 1)) (lv' := [(4, .int (iI (z12 + 1))), (0, .ref (q 0)), (1, .int (iI x1)), (2, .int (iI x2)), (3, .int (iI x3))]) hx hb dX12_searches_119 hl (k := 0) rfl (i_inc (by omega)) (by decide) rfl (fun ls hl => ?_)
                  refine lv_goto (tgt := 53) hx hb dX12_searches_122 (by decide) ?_
                  obtain ⟨A30, hA30⟩ : ∃ A30 : St, A30 = (stA (stA A14 50 ((A14 0 73)).toNat z29) 0 73 ((A14 0 73) + 1)) := ⟨_, rfl⟩
                  rw [← hA30] at hP hI
                  have e_A30_73 : A30 0 73 = (A14 0 73) + 1 := by rw [hA30]; rfl
                  exact ih17 _ (by omega) (z12 + 1) _ _ _ _ (by omega) (by omega) (by omega) (by exact Hd.mk (fun h => ct_stepI (i := z12) (by omega) (by omega) (f22.out h) (by omega))) rfl hI (fr_def hA30 (fr.sf (fr.st (fr.trans (fr.rf) hj13 rfl rfl) (by decide) rfl) rfl)) hP hS (lv_sub hl [0, 1, 2, 3, 4] rfl)
                · have c28 : ¬ z27 = x1 := mt (i_eq (rb rz27 (by decide) (by decide)) (rb hx1 (by decide) (by decide))).mpr c28
                  refine lv_goto (tgt := 119) hx hb dX12_searches_90 (by decide) ?_
                  refine lv_iinc (v := iI (z12 + 1)) (lv' := [(4, .int (iI (z12 + 1))), (0, .ref (q 0)), (1, .int (iI x1)), (2, .int (iI x2)), (3, .int (iI x3))]) hx hb dX12_searches_119 hl (k := 0) rfl (i_inc (by omega)) (by decide) rfl (fun ls hl => ?_)
                  refine lv_goto (tgt := 53) hx hb dX12_searches_122 (by decide) ?_
                  exact ih17 _ (by omega) (z12 + 1) _ _ _ _ (by omega) (by omega) (by omega) (by exact Hd.mk (fun h => ct_stepI (i := z12) (by omega) (by omega) (f22.out h) (by omega))) rfl hI (fr.trans (fr.rf) hj13 rfl rfl) hP hS (lv_sub hl [0, 1, 2, 3, 4] rfl)
        exact L53_16 _ (6 * (A 0 12)) _ _ _ _ (by omega) (by omega) (by omega) (by exact Hd.mk (fun _ => by rw [show 6 * (A 0 12) - 6 * (A 0 12) = 0 by omega]; exact e_A11_73)) rfl hI (fr.rf) hP hS (lv_sub hl [0, 1, 2, 3, 4] rfl)
      · have c10 : ¬ 76832 ≤ z1 := mt (i_le ⟨by decide, by decide⟩ (rb f8 (by decide) (by decide))).mpr c10
        refine lv_aload_n hx hb dX12_searches_10 rfl (lv_at hl 1 rfl) ?_
        refine va_get (D := (dC, dI)) (ci := 12) (v := .ref (q 47)) (C := RX12) (T := TX12) (N := 85) hx hb hts hiX12 hown hK hP 0 wm0 rfl 64 (by decide) (hts _ (List.mem_cons_of_mem _ (wl_in_6 _ (List.mem_of_getElem? (i := 51) rfl)))) (fun _ h9 => h9) rfl dX12_searches_11 ?_
        refine lv_iload hx hb dX12_searches_14 (lv_at hl 0 rfl) ?_
        refine lv_iconst (v := iI (-1)) hx hb dX12_searches_16 (by decide +kernel) ?_
        refine x_iast hx hb hK hP hDD hS 47 1 wm47 rfl (by omega) (by decide) dX12_searches_17 ws47 (fun H locs hP hS => ?_)
        have hI := hI.st (j := 47) (i := (z1).toNat) (v := (-1)) (show (-1 : Int) ≤ (-1) ∧ (-1) ≤ 76832 from (by omega))
        refine lv_iinc (v := iI (z1 + 1)) (lv' := [(4, .int (iI (z1 + 1))), (0, .ref (q 0)), (1, .int (iI x1)), (2, .int (iI x2)), (3, .int (iI x3))]) hx hb dX12_searches_18 hl (k := 0) rfl (i_inc (by omega)) (by decide) rfl (fun ls hl => ?_)
        refine lv_goto (tgt := 3) hx hb dX12_searches_21 (by decide) ?_
        obtain ⟨A82, hA82⟩ : ∃ A82 : St, A82 = (stA A3 47 (z1).toNat (-1)) := ⟨_, rfl⟩
        rw [← hA82] at hP hI
        exact ih5 _ (by omega) (z1 + 1) _ _ _ _ (by omega) (by omega) (by exact Hd.mk (all_step (by omega) f9.out (by rw [hA82]; rfl))) rfl hI (fr_def hA82 (fr.st (fr.trans (fr.rf) hj2 rfl rfl) (by decide) rfl)) hP hS (lv_sub hl [0, 1, 2, 3, 4] rfl)
  exact L3_4 _ 0 _ _ _ _ (by omega) (by omega) (by exact Hd.mk (fun i hi => by omega)) rfl hI (fr.rf) hP hS (lv_sub hl [0, 1, 2, 3, 4] rfl)
