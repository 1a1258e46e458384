def ws_mc_X12_ahead : List Cond := .code yX12_ahead cX12_ahead 6 none :: ([.fieldLink RX12 26 "StackKeysModel" "signEnd" "I", .fieldLink RX12 17 "StackKeysModel" "size" "I", .fieldLink RX12 7 "StackKeysModel" "tape" "[I", .fieldLink RX12 23 "StackKeysModel" "signAt" "I", .fieldLink RX12 20 "StackKeysModel" "sign" "I", .methodLink RX12 279 yX12_isLetter, .static yX12_isLetter, .initialized RX12, .code yX12_isLetter cX12_isLetter 1 (some .boolean), .methodLink RX12 283 yX12_isDigit, .static yX12_isDigit, .code yX12_isDigit cX12_isDigit 1 (some .boolean), .methodLink RX12 286 yX12_blame, .instanceMethod yX12_blame, .selects RX12 yX12_blame yX12_blame, .code yX12_blame cX12_blame 3 none, .fieldLink RX12 36 "StackKeysModel" "faultKind" "I", .fieldLink RX12 39 "StackKeysModel" "faultPlace" "I", .fieldLink RX12 29 "StackKeysModel" "value" "I", .fieldLink RX12 32 "StackKeysModel" "word" "J"] ++ wsX120)
set_option maxRecDepth 20000 in
theorem g_mc_X12_ahead_0 : GoodIn ws_mc_X12_ahead (va_wsS RX12 279 yX12_isLetter ws_mc_X12_isLetter) := goodIn_r _ [6, 7, 8, 9] (by decide +kernel) (by decide +kernel)
set_option maxRecDepth 20000 in
theorem g_mc_X12_ahead_1 : GoodIn ws_mc_X12_ahead (va_wsS RX12 283 yX12_isDigit ws_mc_X12_isDigit) := goodIn_r _ [10, 11, 8, 12] (by decide +kernel) (by decide +kernel)
set_option maxRecDepth 20000 in
theorem g_mc_X12_ahead_2 : GoodIn ws_mc_X12_ahead (va_wsS RX12 279 yX12_isLetter ws_mc_X12_isLetter) := goodIn_r _ [6, 7, 8, 9] (by decide +kernel) (by decide +kernel)
set_option maxRecDepth 20000 in
theorem g_mc_X12_ahead_3 : GoodIn ws_mc_X12_ahead (va_wsS RX12 283 yX12_isDigit ws_mc_X12_isDigit) := goodIn_r _ [10, 11, 8, 12] (by decide +kernel) (by decide +kernel)
set_option maxRecDepth 20000 in
theorem g_mc_X12_ahead_4 : GoodIn ws_mc_X12_ahead (wsV RX12 286 RX12 yX12_blame ws_mc_X12_blame) := goodIn_r _ [13, 14, 15, 8, 16, 17, 18, 21, 22, 23, 24, 25, 26, 27, 28, 29, 30, 31, 32, 33, 34, 35, 36, 37, 38, 39, 40, 41, 42, 43, 44, 45, 46, 47, 48, 49, 50, 51, 52, 53, 54, 55, 56, 57, 58, 59, 60, 61, 62, 63, 64, 65, 66, 67, 68, 69, 70, 71, 72, 73, 74, 75, 76, 77, 78, 79, 80, 81, 82, 83, 84, 85, 86, 87, 88, 89, 90, 91, 92, 93, 94, 95, 96, 97, 98, 99, 100, 101, 102, 103, 104, 105] (by decide +kernel) (by decide +kernel)
set_option maxRecDepth 20000 in
theorem g_mc_X12_ahead_5 : GoodIn ws_mc_X12_ahead (va_wsS RX12 283 yX12_isDigit ws_mc_X12_isDigit) := goodIn_r _ [10, 11, 8, 12] (by decide +kernel) (by decide +kernel)
set_option maxRecDepth 20000 in
theorem g_mc_X12_ahead_6 : GoodIn ws_mc_X12_ahead (va_wsS RX12 279 yX12_isLetter ws_mc_X12_isLetter) := goodIn_r _ [6, 7, 8, 9] (by decide +kernel) (by decide +kernel)
set_option maxRecDepth 20000 in
theorem g_mc_X12_ahead_7 : GoodIn ws_mc_X12_ahead (wsV RX12 286 RX12 yX12_blame ws_mc_X12_blame) := goodIn_r _ [13, 14, 15, 8, 16, 17, 18, 21, 22, 23, 24, 25, 26, 27, 28, 29, 30, 31, 32, 33, 34, 35, 36, 37, 38, 39, 40, 41, 42, 43, 44, 45, 46, 47, 48, 49, 50, 51, 52, 53, 54, 55, 56, 57, 58, 59, 60, 61, 62, 63, 64, 65, 66, 67, 68, 69, 70, 71, 72, 73, 74, 75, 76, 77, 78, 79, 80, 81, 82, 83, 84, 85, 86, 87, 88, 89, 90, 91, 92, 93, 94, 95, 96, 97, 98, 99, 100, 101, 102, 103, 104, 105] (by decide +kernel) (by decide +kernel)
set_option maxHeartbeats 4000000 in
set_option maxRecDepth 100000 in
theorem mc_X12_ahead (l : Launch) (dC : Nat → ClassId) (dI : Nat → Nat → Nat) (cB cI cJ cZ cQ : ClassId) (q : Nat → Nat) (A : St) (hI : IM A) : XMv l yX12_ahead ws_mc_X12_ahead ({ frames := 1, cells := 0, slots := 0, locals := 22 } : Room) (dC, dI) (tyA cB cI cJ cZ cQ) (WM cI cJ cZ q) A [.ref (q 0)] (fun u => IM u ∧ fr [] [3, 4, 5, 6, 7, 8, 9] A u ∧ (True)) := by
  refine x_metv (cc := cX12_ahead) (maxL := 6) WM_adr (by decide +kernel) rfl (Nat.le_of_ble_eq_true rfl) (fun p e s m below meth c Q AS ls hx hb hml hown hts hK hDD hA0 hP hS hl RET => ?_)
  have hown : s.vm.findClass RX12 = some m.cls := hown
  have hl : lv_has ls 6 [(0, .ref (q 0))] := hl
  have hiX12 : ∀ w ∈ u_ws RX12 TX12 85, w ∈ ws_mc_X12_ahead := fun w h => List.mem_cons_of_mem _ (List.mem_append_right _ h)
  obtain ⟨H, hHe⟩ : ∃ H : Heap, H = s.heap := ⟨_, rfl⟩
  rw [← hHe] at hP
  have hS : va_S AS s.heap H [] := by rw [hHe]; exact hS
  suffices hgo : ∀ locs : List Loc, va_S AS s.heap H locs → W p l e (headSpec ws_mc_X12_ahead ({ frames := 1, cells := 0, slots := 0, locals := 22 } : Room)).room s m [.ref (q 0)].toArray below meth c H locs 0 0 Q (F0 m 0 ls []) by
    have := hgo [] hS
    rw [hHe] at this
    exact this
  clear hS hHe
  intro locs hS
  refine lv_aload_n hx hb dX12_ahead_0 rfl (lv_at hl 0 rfl) ?_
  refine va_get (D := (dC, dI)) (ci := 12) (v := .int (iI (A 0 5))) (C := RX12) (T := TX12) (N := 85) hx hb hts hiX12 hown hK hP 0 wm0 rfl 5 (by decide) (hts _ (List.mem_of_getElem? (i := 1) rfl)) (fun _ h9 => h9) rfl dX12_ahead_1 ?_
  have r_A_0_5 : (0 : Int) ≤ (A 0 5) ∧ (A 0 5) ≤ 1600 := hI 0 5
  refine lv_istore_n (lv' := [(1, .int (iI (A 0 5))), (0, .ref (q 0))]) hx hb dX12_ahead_4 rfl hl (by decide) rfl (fun ls hl => ?_)
  have L5_3 : ∀ (n5 : Nat) (z1 : Int) (H : Heap) (locs : List Loc) (ls : Array Slot), ((A 0 5) ≤ z1) → (0 ≤ z1 ∧ z1 ≤ 1600) → (((A 0 2) - z1 + 1).toNat = n5) → va_P (dC, dI) vwCl (WM cI cJ cZ q A) H → va_S AS s.heap H locs → lv_has ls 6 [(1, .int (iI z1)), (0, .ref (q 0))] → W p l e (headSpec ws_mc_X12_ahead ({ frames := 1, cells := 0, slots := 0, locals := 22 } : Room)).room s m [.ref (q 0)].toArray below meth c H locs 0 0 Q (F0 m 5 ls []) := by
    intro n5
    induction n5 using Nat.strongRecOn with
    | ind n5 ih4 =>
      intro z1 H locs ls f6 f7 hn5 hP hS hl
      refine lv_iload_n hx hb dX12_ahead_5 rfl (lv_at hl 0 rfl) ?_
      refine lv_aload_n hx hb dX12_ahead_6 rfl (lv_at hl 1 rfl) ?_
      refine va_get (D := (dC, dI)) (ci := 12) (v := .int (iI (A 0 2))) (C := RX12) (T := TX12) (N := 85) hx hb hts hiX12 hown hK hP 0 wm0 rfl 2 (by decide) (hts _ (List.mem_of_getElem? (i := 2) rfl)) (fun _ h9 => h9) rfl dX12_ahead_7 ?_
      have r_A_0_2 : (0 : Int) ≤ (A 0 2) ∧ (A 0 2) ≤ 1600 := hI 0 2
      have J41_9 : ∀ (H : Heap) (locs : List Loc) (ls : Array Slot), va_P (dC, dI) vwCl (WM cI cJ cZ q A) H → va_S AS s.heap H locs → lv_has ls 6 [(1, .int (iI z1)), (0, .ref (q 0))] → W p l e (headSpec ws_mc_X12_ahead ({ frames := 1, cells := 0, slots := 0, locals := 22 } : Room)).room s m [.ref (q 0)].toArray below meth c H locs 0 0 Q (F0 m 41 ls []) := by
        intro H locs ls hP hS hl
        refine lv_aload_n hx hb dX12_ahead_41 rfl (lv_at hl 1 rfl) ?_
        refine lv_iload_n hx hb dX12_ahead_42 rfl (lv_at hl 0 rfl) ?_
        refine x_put (D := (dC, dI)) (ci := 12) (v := .int (iI z1)) (ty := .int) (C := RX12) (T := TX12) (N := 85) hx hb hts hiX12 tyX12 tyX12_ok nmX12 hown hK hP hDD hS 0 wm0 rfl 4 (by decide) (hts _ (List.mem_of_getElem? (i := 4) rfl)) (fun _ h9 => h9) rfl (by decide +kernel) rfl rfl (Nat.le_of_ble_eq_true rfl) dX12_ahead_43 (wf4 (v := z1)) (fun H locs hP hS => ?_)
        have hI := hI.st (j := 0) (i := 4) (v := z1) (show (0 : Int) ≤ z1 ∧ z1 ≤ 1600 from ⟨by omega, by omega⟩)
        refine lv_aload_n hx hb dX12_ahead_46 rfl (lv_at hl 1 rfl) ?_
        refine lv_iload_n hx hb dX12_ahead_47 rfl (lv_at hl 0 rfl) ?_
        refine x_put (D := (dC, dI)) (ci := 12) (v := .int (iI z1)) (ty := .int) (C := RX12) (T := TX12) (N := 85) hx hb hts hiX12 tyX12 tyX12_ok nmX12 hown hK hP hDD hS 0 wm0 rfl 5 (by decide) (hts _ (List.mem_of_getElem? (i := 1) rfl)) (fun _ h9 => h9) rfl (by decide +kernel) rfl rfl (Nat.le_of_ble_eq_true rfl) dX12_ahead_48 (wf5 (v := z1)) (fun H locs hP hS => ?_)
        have hI := hI.st (j := 0) (i := 5) (v := z1) (show (0 : Int) ≤ z1 ∧ z1 ≤ 1600 from ⟨by omega, by omega⟩)
        refine lv_aload_n hx hb dX12_ahead_51 rfl (lv_at hl 1 rfl) ?_
        refine lv_iconst (v := iI 0) hx hb dX12_ahead_52 (by decide +kernel) ?_
        refine x_put (D := (dC, dI)) (ci := 12) (v := .int (iI 0)) (ty := .int) (C := RX12) (T := TX12) (N := 85) hx hb hts hiX12 tyX12 tyX12_ok nmX12 hown hK hP hDD hS 0 wm0 rfl 3 (by decide) (hts _ (List.mem_of_getElem? (i := 5) rfl)) (fun _ h9 => h9) rfl (by decide +kernel) rfl rfl (Nat.le_of_ble_eq_true rfl) dX12_ahead_53 (wf3 (v := 0)) (fun H locs hP hS => ?_)
        have hI := hI.st (j := 0) (i := 3) (v := 0) (show (0 : Int) ≤ 0 ∧ 0 ≤ 3 from ⟨by omega, by omega⟩)
        refine lv_iload_n hx hb dX12_ahead_56 rfl (lv_at hl 0 rfl) ?_
        refine lv_aload_n hx hb dX12_ahead_57 rfl (lv_at hl 1 rfl) ?_
        refine va_get (D := (dC, dI)) (ci := 12) (v := .int (iI (A 0 2))) (C := RX12) (T := TX12) (N := 85) hx hb hts hiX12 hown hK hP 0 wm0 rfl 2 (by decide) (hts _ (List.mem_of_getElem? (i := 2) rfl)) (fun _ h9 => h9) rfl dX12_ahead_58 ?_
        refine lv_icmp_lt (tgt := 65) hx hb dX12_ahead_61 (by decide) (fun c17 => ?_) (fun c17 => ?_)
        · have c17 : z1 < (A 0 2) := (i_lt ⟨by omega, by omega⟩ ⟨by omega, by omega⟩).mp c17
          refine lv_aload_n hx hb dX12_ahead_65 rfl (lv_at hl 1 rfl) ?_
          refine va_get (D := (dC, dI)) (ci := 12) (v := .ref (q 1)) (C := RX12) (T := TX12) (N := 85) hx hb hts hiX12 hown hK hP 0 wm0 rfl 0 (by decide) (hts _ (List.mem_of_getElem? (i := 3) rfl)) (fun _ h9 => h9) rfl dX12_ahead_66 ?_
          refine lv_iload_n hx hb dX12_ahead_69 rfl (lv_at hl 0 rfl) ?_
          refine x_iald hx hb hK hP 1 1 wm1 rfl ⟨by omega, by omega⟩ (by decide) dX12_ahead_70 (fun z18 hz18 => ?_)
          have rz18 : (0 : Int) ≤ z18 ∧ z18 ≤ 255 := by rw [hz18]; exact hI 1 _
          have hz18 : z18 = A 1 (z1).toNat := hz18
          obtain ⟨A19, hA19⟩ : ∃ A19 : St, A19 = (stA (stA (stA A 0 4 z1) 0 5 z1) 0 3 0) := ⟨_, rfl⟩
          rw [← hA19] at hP hI
          refine x_callSi (As := [.int (iI z18)]) (rest := []) ⟨hx, hb, hml, hown, hts⟩ (mc_X12_isLetter l dC dI cB cI cJ cZ cQ q _ z18 hI ⟨by omega, by omega⟩) (va_cwS 1 hts g_mc_X12_ahead_0 rfl rfl rfl (by decide +kernel) ⟨Nat.le_of_ble_eq_true rfl, Nat.le_of_ble_eq_true rfl⟩) hK hDD hA0 hP hS rfl hl.1 (Nat.le_of_ble_eq_true rfl) dX12_ahead_71 (fun z20 A21 H locs hw22 hP hS => ?_)
          obtain ⟨rfl, hw22⟩ := hw22
          refine lv_istore_n (lv' := [(2, .int (iI z20)), (1, .int (iI z1)), (0, .ref (q 0))]) hx hb dX12_ahead_74 rfl hl (by decide) rfl (fun ls hl => ?_)
          refine lv_aload_n hx hb dX12_ahead_75 rfl (lv_at hl 2 rfl) ?_
          refine va_get (D := (dC, dI)) (ci := 12) (v := .ref (q 1)) (C := RX12) (T := TX12) (N := 85) hx hb hts hiX12 hown hK hP 0 wm0 rfl 0 (by decide) (hts _ (List.mem_of_getElem? (i := 3) rfl)) (fun _ h9 => h9) rfl dX12_ahead_76 ?_
          refine lv_iload_n hx hb dX12_ahead_79 rfl (lv_at hl 1 rfl) ?_
          have a_A19_1 : A19 1 = A 1 := by rw [hA19]; exact rfl
          refine x_iald hx hb hK hP 1 1 wm1 rfl ⟨by omega, by omega⟩ (by decide) dX12_ahead_80 (fun z23 hz23 => ?_)
          have rz23 : (0 : Int) ≤ z23 ∧ z23 ≤ 255 := by rw [hz23]; exact hI 1 _
          have hz23 : z23 = A 1 (z1).toNat := hz23.trans (congrFun a_A19_1 _)
          have ez23 : z23 = z18 := hz23.trans hz18.symm
          refine x_callSi (As := [.int (iI z23)]) (rest := []) ⟨hx, hb, hml, hown, hts⟩ (mc_X12_isDigit l dC dI cB cI cJ cZ cQ q _ z23 hI ⟨by omega, by omega⟩) (va_cwS 1 hts g_mc_X12_ahead_1 rfl rfl rfl (by decide +kernel) ⟨Nat.le_of_ble_eq_true rfl, Nat.le_of_ble_eq_true rfl⟩) hK hDD hA0 hP hS rfl hl.1 (Nat.le_of_ble_eq_true rfl) dX12_ahead_81 (fun z24 A25 H locs hw26 hP hS => ?_)
          obtain ⟨rfl, hw26⟩ := hw26
          refine lv_istore_n (lv' := [(3, .int (iI z24)), (2, .int (iI z20)), (1, .int (iI z1)), (0, .ref (q 0))]) hx hb dX12_ahead_84 rfl hl (by decide) rfl (fun ls hl => ?_)
          refine lv_iload_n hx hb dX12_ahead_85 rfl (lv_at hl 1 rfl) ?_
          have J131_29 : ∀ (A49 : St) (H : Heap) (locs : List Loc) (ls : Array Slot), IM A49 → fr [] [8, 9] A19 A49 → va_P (dC, dI) vwCl (WM cI cJ cZ q A49) H → va_S AS s.heap H locs → lv_has ls 6 [(3, .int (iI z24)), (2, .int (iI z20)), (1, .int (iI z1)), (0, .ref (q 0))] → W p l e (headSpec ws_mc_X12_ahead ({ frames := 1, cells := 0, slots := 0, locals := 22 } : Room)).room s m [.ref (q 0)].toArray below meth c H locs 0 0 Q (F0 m 131 ls []) := by
            intro A49 H locs ls hI hj48 hP hS hl
            refine lv_aload_n hx hb dX12_ahead_131 rfl (lv_at hl 3 rfl) ?_
            refine lv_iconst (v := iI 0) hx hb dX12_ahead_132 (by decide +kernel) ?_
            refine x_put (D := (dC, dI)) (ci := 12) (v := .int (iI 0)) (ty := .int) (C := RX12) (T := TX12) (N := 85) hx hb hts hiX12 tyX12 tyX12_ok nmX12 hown hK hP hDD hS 0 wm0 rfl 6 (by decide) (hts _ (List.mem_of_getElem? (i := 19) rfl)) (fun _ h9 => h9) rfl (by decide +kernel) rfl rfl (Nat.le_of_ble_eq_true rfl) dX12_ahead_133 (wf6 (v := 0)) (fun H locs hP hS => ?_)
            have hI := hI.st (j := 0) (i := 6) (v := 0) (show (-2147483648 : Int) ≤ 0 ∧ 0 ≤ 2147483647 from ⟨by omega, by omega⟩)
            refine lv_aload_n hx hb dX12_ahead_136 rfl (lv_at hl 3 rfl) ?_
            refine lv_lconst (v := jI 0) hx hb dX12_ahead_137 (by decide +kernel) ?_
            refine x_put (D := (dC, dI)) (ci := 12) (v := .long (jI 0)) (ty := .long) (C := RX12) (T := TX12) (N := 85) hx hb hts hiX12 tyX12 tyX12_ok nmX12 hown hK hP hDD hS 0 wm0 rfl 7 (by decide) (hts _ (List.mem_of_getElem? (i := 20) rfl)) (fun _ h9 => h9) rfl (by decide +kernel) rfl rfl (Nat.le_of_ble_eq_true rfl) dX12_ahead_138 (wf7 (v := 0)) (fun H locs hP hS => ?_)
            have hI := hI.st (j := 0) (i := 7) (v := 0) (show (-9223372036854775808 : Int) ≤ 0 ∧ 0 ≤ 9223372036854775807 from ⟨by omega, by omega⟩)
            refine lv_aload_n hx hb dX12_ahead_141 rfl (lv_at hl 3 rfl) ?_
            refine lv_iconst (v := iI 3) hx hb dX12_ahead_142 (by decide +kernel) ?_
            refine x_put (D := (dC, dI)) (ci := 12) (v := .int (iI 3)) (ty := .int) (C := RX12) (T := TX12) (N := 85) hx hb hts hiX12 tyX12 tyX12_ok nmX12 hown hK hP hDD hS 0 wm0 rfl 3 (by decide) (hts _ (List.mem_of_getElem? (i := 5) rfl)) (fun _ h9 => h9) rfl (by decide +kernel) rfl rfl (Nat.le_of_ble_eq_true rfl) dX12_ahead_143 (wf3 (v := 3)) (fun H locs hP hS => ?_)
            have hI := hI.st (j := 0) (i := 3) (v := 3) (show (0 : Int) ≤ 3 ∧ 3 ≤ 3 from ⟨by omega, by omega⟩)
            refine lv_aload_n hx hb dX12_ahead_146 rfl (lv_at hl 3 rfl) ?_
            refine lv_iload_n hx hb dX12_ahead_147 rfl (lv_at hl 2 rfl) ?_
            refine lv_iconst (v := iI 1) hx hb dX12_ahead_148 (by decide +kernel) ?_
            refine x_addv (v := z1 + 1) hx hb dX12_ahead_149 (by omega) ?_
            refine x_put (D := (dC, dI)) (ci := 12) (v := .int (iI (z1 + 1))) (ty := .int) (C := RX12) (T := TX12) (N := 85) hx hb hts hiX12 tyX12 tyX12_ok nmX12 hown hK hP hDD hS 0 wm0 rfl 5 (by decide) (hts _ (List.mem_of_getElem? (i := 1) rfl)) (fun _ h9 => h9) rfl (by decide +kernel) rfl rfl (Nat.le_of_ble_eq_true rfl) dX12_ahead_150 (wf5 (v := z1 + 1)) (fun H locs hP hS => ?_)
            have hI := hI.st (j := 0) (i := 5) (v := z1 + 1) (show (0 : Int) ≤ z1 + 1 ∧ z1 + 1 ≤ 1600 from ⟨by omega, by omega⟩)
            refine lv_iload_n hx hb dX12_ahead_153 rfl (lv_at hl 1 rfl) ?_
            obtain ⟨A50, hA50⟩ : ∃ A50 : St, A50 = (stA (stA (stA (stA A49 0 6 0) 0 7 0) 0 3 3) 0 5 (z1 + 1)) := ⟨_, rfl⟩
            rw [← hA50] at hP hI
            have J172_52 : ∀ (H : Heap) (locs : List Loc) (ls : Array Slot), va_P (dC, dI) vwCl (WM cI cJ cZ q A50) H → va_S AS s.heap H locs → lv_has ls 6 [(3, .int (iI z24)), (2, .int (iI z20)), (1, .int (iI z1)), (0, .ref (q 0))] → W p l e (headSpec ws_mc_X12_ahead ({ frames := 1, cells := 0, slots := 0, locals := 22 } : Room)).room s m [.ref (q 0)].toArray below meth c H locs 0 0 Q (F0 m 172 ls []) := by
              intro H locs ls hP hS hl
              refine lv_aload_n hx hb dX12_ahead_172 rfl (lv_at hl 3 rfl) ?_
              refine lv_iload_n hx hb dX12_ahead_173 rfl (lv_at hl 1 rfl) ?_
              have J182_57 : ∀ (z58 : Int) (H : Heap) (locs : List Loc) (ls : Array Slot), (1 ≤ z58 ∧ z58 ≤ 2) → va_P (dC, dI) vwCl (WM cI cJ cZ q A50) H → va_S AS s.heap H locs → lv_has ls 6 [(3, .int (iI z24)), (2, .int (iI z20)), (1, .int (iI z1)), (0, .ref (q 0))] → W p l e (headSpec ws_mc_X12_ahead ({ frames := 1, cells := 0, slots := 0, locals := 22 } : Room)).room s m [.ref (q 0)].toArray below meth c H locs 0 0 Q (F0 m 182 ls [.int (iI z58), .ref (q 0)]) := by
                intro z58 H locs ls f60 hP hS hl
                refine x_put (D := (dC, dI)) (ci := 12) (v := .int (iI z58)) (ty := .int) (C := RX12) (T := TX12) (N := 85) hx hb hts hiX12 tyX12 tyX12_ok nmX12 hown hK hP hDD hS 0 wm0 rfl 3 (by decide) (hts _ (List.mem_of_getElem? (i := 5) rfl)) (fun _ h9 => h9) rfl (by decide +kernel) rfl rfl (Nat.le_of_ble_eq_true rfl) dX12_ahead_182 (wf3 (v := z58)) (fun H locs hP hS => ?_)
                have hI := hI.st (j := 0) (i := 3) (v := z58) (show (0 : Int) ≤ z58 ∧ z58 ≤ 3 from ⟨by omega, by omega⟩)
                refine lv_iload_n hx hb dX12_ahead_185 rfl (lv_at hl 1 rfl) ?_
                obtain ⟨A61, hA61⟩ : ∃ A61 : St, A61 = (stA A50 0 3 z58) := ⟨_, rfl⟩
                rw [← hA61] at hP hI
                have J195_63 : ∀ (z64 : Int) (H : Heap) (locs : List Loc) (ls : Array Slot), (4 ≤ z64 ∧ z64 ≤ 6) → va_P (dC, dI) vwCl (WM cI cJ cZ q A61) H → va_S AS s.heap H locs → lv_has ls 6 [(3, .int (iI z24)), (2, .int (iI z20)), (1, .int (iI z1)), (0, .ref (q 0))] → W p l e (headSpec ws_mc_X12_ahead ({ frames := 1, cells := 0, slots := 0, locals := 22 } : Room)).room s m [.ref (q 0)].toArray below meth c H locs 0 0 Q (F0 m 195 ls [.int (iI z64)]) := by
                  intro z64 H locs ls f66 hP hS hl
                  refine lv_istore (lv' := [(4, .int (iI z64)), (3, .int (iI z24)), (2, .int (iI z20)), (1, .int (iI z1)), (0, .ref (q 0))]) hx hb dX12_ahead_195 hl (by decide) rfl (fun ls hl => ?_)
                  refine lv_iconst (v := iI 0) hx hb dX12_ahead_197 (by decide +kernel) ?_
                  refine lv_istore (lv' := [(5, .int (iI 0)), (4, .int (iI z64)), (3, .int (iI z24)), (2, .int (iI z20)), (1, .int (iI z1)), (0, .ref (q 0))]) hx hb dX12_ahead_198 hl (by decide) rfl (fun ls hl => ?_)
                  have L200_71 : ∀ (n73 : Nat) (z67 z68 : Int) (A70 : St) (H : Heap) (locs : List Loc) (ls : Array Slot), (0 ≤ z67) → (0 ≤ z67 ∧ z67 ≤ 1600) → (z1 ≤ z68) → (0 ≤ z68 ∧ z68 ≤ 1600) → (z67 ≤ z68) → (((A 0 2) - z68 + 1).toNat = n73) → IM A70 → fr [] [6, 7, 8, 9] A61 A70 → va_P (dC, dI) vwCl (WM cI cJ cZ q A70) H → va_S AS s.heap H locs → lv_has ls 6 [(5, .int (iI z67)), (4, .int (iI z64)), (3, .int (iI z24)), (2, .int (iI z20)), (1, .int (iI z68)), (0, .ref (q 0))] → W p l e (headSpec ws_mc_X12_ahead ({ frames := 1, cells := 0, slots := 0, locals := 22 } : Room)).room s m [.ref (q 0)].toArray below meth c H locs 0 0 Q (F0 m 200 ls []) := by
                    intro n73
                    induction n73 using Nat.strongRecOn with
                    | ind n73 ih72 =>
                      intro z67 z68 A70 H locs ls f74 f75 f76 f77 f78 hn73 hI hj69 hP hS hl
                      refine lv_iload_n hx hb dX12_ahead_200 rfl (lv_at hl 4 rfl) ?_
                      refine lv_aload_n hx hb dX12_ahead_201 rfl (lv_at hl 5 rfl) ?_
                      have e_A19_2 : A19 0 2 = (A 0 2) := by rw [hA19]; exact rfl
                      have e_A49_2 : A49 0 2 = (A 0 2) := (hj48.2 2 rfl).trans e_A19_2
                      have e_A50_2 : A50 0 2 = (A 0 2) := by rw [hA50]; exact e_A49_2
                      have e_A61_2 : A61 0 2 = (A 0 2) := by rw [hA61]; exact e_A50_2
                      have e_A70_2 : A70 0 2 = (A 0 2) := (hj69.2 2 rfl).trans e_A61_2
                      refine va_get (D := (dC, dI)) (ci := 12) (v := .int (iI (A70 0 2))) (C := RX12) (T := TX12) (N := 85) hx hb hts hiX12 hown hK hP 0 wm0 rfl 2 (by decide) (hts _ (List.mem_of_getElem? (i := 2) rfl)) (fun _ h9 => h9) rfl dX12_ahead_202 ?_
                      refine tp_i (y := iI (A 0 2)) (congrArg iI e_A70_2) ?_
                      refine lv_icmp_ge (tgt := 323) hx hb dX12_ahead_205 (by decide) (fun c79 => ?_) (fun c79 => ?_)
                      · have c79 : (A 0 2) ≤ z68 := (i_le ⟨by omega, by omega⟩ ⟨by omega, by omega⟩).mp c79
                        refine lv_aload_n hx hb dX12_ahead_323 rfl (lv_at hl 5 rfl) ?_
                        refine lv_iload_n hx hb dX12_ahead_324 rfl (lv_at hl 4 rfl) ?_
                        refine x_put (D := (dC, dI)) (ci := 12) (v := .int (iI z68)) (ty := .int) (C := RX12) (T := TX12) (N := 85) hx hb hts hiX12 tyX12 tyX12_ok nmX12 hown hK hP hDD hS 0 wm0 rfl 5 (by decide) (hts _ (List.mem_of_getElem? (i := 1) rfl)) (fun _ h9 => h9) rfl (by decide +kernel) rfl rfl (Nat.le_of_ble_eq_true rfl) dX12_ahead_325 (wf5 (v := z68)) (fun H locs hP hS => ?_)
                        have hI := hI.st (j := 0) (i := 5) (v := z68) (show (0 : Int) ≤ z68 ∧ z68 ≤ 1600 from ⟨by omega, by omega⟩)
                        exact RET _ _ _ _ _ ⟨hI, fr.sf (fr.trans (fr_def hA61 (fr.sf (fr_def hA50 (fr.sf (fr.sf (fr.sf (fr.sf (fr.trans (fr_def hA19 (fr.sf (fr.sf (fr.sf (fr.rf) rfl) rfl) rfl)) hj48 rfl rfl) rfl) rfl) rfl) rfl)) rfl)) hj69 rfl rfl) rfl, trivial⟩ hP hS dX12_ahead_328
                      · have c79 : ¬ (A 0 2) ≤ z68 := mt (i_le ⟨by omega, by omega⟩ ⟨by omega, by omega⟩).mpr c79
                        refine lv_iload_n hx hb dX12_ahead_208 rfl (lv_at hl 3 rfl) ?_
                        have J239_81 : ∀ (H : Heap) (locs : List Loc) (ls : Array Slot), va_P (dC, dI) vwCl (WM cI cJ cZ q A70) H → va_S AS s.heap H locs → lv_has ls 6 [(5, .int (iI z67)), (4, .int (iI z64)), (3, .int (iI z24)), (2, .int (iI z20)), (1, .int (iI z68)), (0, .ref (q 0))] → W p l e (headSpec ws_mc_X12_ahead ({ frames := 1, cells := 0, slots := 0, locals := 22 } : Room)).room s m [.ref (q 0)].toArray below meth c H locs 0 0 Q (F0 m 239 ls []) := by
                          intro H locs ls hP hS hl
                          refine lv_iload hx hb dX12_ahead_239 (lv_at hl 0 rfl) ?_
                          refine lv_iload hx hb dX12_ahead_241 (lv_at hl 1 rfl) ?_
                          have J252_94 : ∀ (A99 : St) (H : Heap) (locs : List Loc) (ls : Array Slot), IM A99 → fr [] [8, 9] A70 A99 → va_P (dC, dI) vwCl (WM cI cJ cZ q A99) H → va_S AS s.heap H locs → lv_has ls 6 [(5, .int (iI z67)), (4, .int (iI z64)), (3, .int (iI z24)), (2, .int (iI z20)), (1, .int (iI z68)), (0, .ref (q 0))] → W p l e (headSpec ws_mc_X12_ahead ({ frames := 1, cells := 0, slots := 0, locals := 22 } : Room)).room s m [.ref (q 0)].toArray below meth c H locs 0 0 Q (F0 m 252 ls []) := by
                            intro A99 H locs ls hI hj98 hP hS hl
                            refine lv_iload hx hb dX12_ahead_252 (lv_at hl 0 rfl) ?_
                            refine lv_iload hx hb dX12_ahead_254 (lv_at hl 1 rfl) ?_
                            have J282_101 : ∀ (A108 : St) (H : Heap) (locs : List Loc) (ls : Array Slot), IM A108 → fr [] [7] A99 A108 → va_P (dC, dI) vwCl (WM cI cJ cZ q A108) H → va_S AS s.heap H locs → lv_has ls 6 [(5, .int (iI z67)), (4, .int (iI z64)), (3, .int (iI z24)), (2, .int (iI z20)), (1, .int (iI z68)), (0, .ref (q 0))] → W p l e (headSpec ws_mc_X12_ahead ({ frames := 1, cells := 0, slots := 0, locals := 22 } : Room)).room s m [.ref (q 0)].toArray below meth c H locs 0 0 Q (F0 m 282 ls []) := by
                              intro A108 H locs ls hI hj107 hP hS hl
                              refine lv_iload hx hb dX12_ahead_282 (lv_at hl 0 rfl) ?_
                              refine lv_iload hx hb dX12_ahead_284 (lv_at hl 1 rfl) ?_
                              have J314_110 : ∀ (A117 : St) (H : Heap) (locs : List Loc) (ls : Array Slot), IM A117 → fr [] [6] A108 A117 → va_P (dC, dI) vwCl (WM cI cJ cZ q A117) H → va_S AS s.heap H locs → lv_has ls 6 [(5, .int (iI z67)), (4, .int (iI z64)), (3, .int (iI z24)), (2, .int (iI z20)), (1, .int (iI z68)), (0, .ref (q 0))] → W p l e (headSpec ws_mc_X12_ahead ({ frames := 1, cells := 0, slots := 0, locals := 22 } : Room)).room s m [.ref (q 0)].toArray below meth c H locs 0 0 Q (F0 m 314 ls []) := by
                                intro A117 H locs ls hI hj116 hP hS hl
                                refine lv_iinc (v := iI (z67 + 1)) (lv' := [(5, .int (iI (z67 + 1))), (4, .int (iI z64)), (3, .int (iI z24)), (2, .int (iI z20)), (1, .int (iI z68)), (0, .ref (q 0))]) hx hb dX12_ahead_314 hl (k := 0) rfl (i_inc (by omega)) (by decide) rfl (fun ls hl => ?_)
                                refine lv_iinc (v := iI (z68 + 1)) (lv' := [(1, .int (iI (z68 + 1))), (5, .int (iI (z67 + 1))), (4, .int (iI z64)), (3, .int (iI z24)), (2, .int (iI z20)), (0, .ref (q 0))]) hx hb dX12_ahead_317 hl (k := 4) rfl (i_inc (by omega)) (by decide) rfl (fun ls hl => ?_)
                                refine lv_goto (tgt := 200) hx hb dX12_ahead_320 (by decide) ?_
                                exact ih72 _ (by omega) (z67 + 1) (z68 + 1) _ _ _ _ (by omega) (by omega) (by omega) (by omega) (by omega) rfl hI (fr.trans (fr.trans (fr.trans (fr.trans (fr.rf) hj69 rfl rfl) hj98 rfl rfl) hj107 rfl rfl) hj116 rfl rfl) hP hS (lv_sub hl [1, 2, 3, 4, 0, 5] rfl)
                              refine lv_icmp_ge (tgt := 314) hx hb dX12_ahead_286 (by decide) (fun c109 => ?_) (fun c109 => ?_)
                              · have c109 : z64 ≤ z67 := (i_le ⟨by omega, by omega⟩ ⟨by omega, by omega⟩).mp c109
                                exact J314_110 _ _ _ _ hI (fr.rf) hP hS (lv_sub hl [0, 1, 2, 3, 4, 5] rfl)
                              · have c109 : ¬ z64 ≤ z67 := mt (i_le ⟨by omega, by omega⟩ ⟨by omega, by omega⟩).mpr c109
                                refine lv_iload_n hx hb dX12_ahead_289 rfl (lv_at hl 2 rfl) ?_
                                refine lv_if_eq (tgt := 314) hx hb dX12_ahead_290 (by decide) (fun c111 => ?_) (fun c111 => ?_)
                                · have c111 : z24 = 0 := (i_eq0 ⟨by omega, by omega⟩).mp c111
                                  exact J314_110 _ _ _ _ hI (fr.rf) hP hS (lv_sub hl [0, 1, 2, 3, 4, 5] rfl)
                                · have c111 : ¬ z24 = 0 := mt (i_eq0 ⟨by omega, by omega⟩).mpr c111
                                  refine lv_aload_n hx hb dX12_ahead_293 rfl (lv_at hl 5 rfl) ?_
                                  refine lv_bipush (v := iI 10) hx hb dX12_ahead_294 (by decide +kernel) ?_
                                  refine lv_aload_n hx hb dX12_ahead_296 rfl (lv_at hl 5 rfl) ?_
                                  have e_A99_6 : A99 0 6 = (A70 0 6) := (hj98.2 6 rfl)
                                  have e_A108_6 : A108 0 6 = (A70 0 6) := (hj107.2 6 rfl).trans e_A99_6
                                  refine va_get (D := (dC, dI)) (ci := 12) (v := .int (iI (A108 0 6))) (C := RX12) (T := TX12) (N := 85) hx hb hts hiX12 hown hK hP 0 wm0 rfl 6 (by decide) (hts _ (List.mem_of_getElem? (i := 19) rfl)) (fun _ h9 => h9) rfl dX12_ahead_297 ?_
                                  refine tp_i (y := iI (A70 0 6)) (congrArg iI e_A108_6) ?_
                                  have r_A70_0_6 : (-2147483648 : Int) ≤ (A70 0 6) ∧ (A70 0 6) ≤ 2147483647 := by rw [← e_A108_6]; exact hI 0 6
                                  refine x_mulv (v := 10 * (A70 0 6)) hx hb dX12_ahead_300 (by omega) ?_
                                  refine x_abs (fun z112 hz112 => ?_)
                                  refine lv_aload_n hx hb dX12_ahead_301 rfl (lv_at hl 5 rfl) ?_
                                  refine va_get (D := (dC, dI)) (ci := 12) (v := .ref (q 1)) (C := RX12) (T := TX12) (N := 85) hx hb hts hiX12 hown hK hP 0 wm0 rfl 0 (by decide) (hts _ (List.mem_of_getElem? (i := 3) rfl)) (fun _ h9 => h9) rfl dX12_ahead_302 ?_
                                  refine lv_iload_n hx hb dX12_ahead_305 rfl (lv_at hl 4 rfl) ?_
                                  have a_A49_1 : A49 1 = A 1 := (hj48.1 1 (by decide) rfl).trans a_A19_1
                                  have a_A50_1 : A50 1 = A 1 := by rw [hA50]; exact a_A49_1
                                  have a_A61_1 : A61 1 = A 1 := by rw [hA61]; exact a_A50_1
                                  have a_A70_1 : A70 1 = A 1 := (hj69.1 1 (by decide) rfl).trans a_A61_1
                                  have a_A99_1 : A99 1 = A 1 := (hj98.1 1 (by decide) rfl).trans a_A70_1
                                  have a_A108_1 : A108 1 = A 1 := (hj107.1 1 (by decide) rfl).trans a_A99_1
                                  refine x_iald hx hb hK hP 1 1 wm1 rfl ⟨by omega, by omega⟩ (by decide) dX12_ahead_306 (fun z113 hz113 => ?_)
                                  have rz113 : (0 : Int) ≤ z113 ∧ z113 ≤ 255 := by rw [hz113]; exact hI 1 _
                                  have hz113 : z113 = A 1 (z68).toNat := hz113.trans (congrFun a_A108_1 _)
                                  refine x_addv (v := z112 + z113) hx hb dX12_ahead_307 (by omega) ?_
                                  refine x_abs (fun z114 hz114 => ?_)
                                  refine lv_bipush (v := iI 48) hx hb dX12_ahead_308 (by decide +kernel) ?_
                                  refine x_subv (v := z114 - 48) hx hb dX12_ahead_310 (by omega) ?_
                                  refine x_abs (fun z115 hz115 => ?_)
                                  refine x_put (D := (dC, dI)) (ci := 12) (v := .int (iI z115)) (ty := .int) (C := RX12) (T := TX12) (N := 85) hx hb hts hiX12 tyX12 tyX12_ok nmX12 hown hK hP hDD hS 0 wm0 rfl 6 (by decide) (hts _ (List.mem_of_getElem? (i := 19) rfl)) (fun _ h9 => h9) rfl (by decide +kernel) rfl rfl (Nat.le_of_ble_eq_true rfl) dX12_ahead_311 (wf6 (v := z115)) (fun H locs hP hS => ?_)
                                  have hI := hI.st (j := 0) (i := 6) (v := z115) (show (-2147483648 : Int) ≤ z115 ∧ z115 ≤ 2147483647 from ⟨by omega, by omega⟩)
                                  exact J314_110 _ _ _ _ hI (fr.sf (fr.rf) rfl) hP hS (lv_sub hl [0, 1, 2, 3, 4, 5] rfl)
                            refine lv_icmp_ge (tgt := 282) hx hb dX12_ahead_256 (by decide) (fun c100 => ?_) (fun c100 => ?_)
                            · have c100 : z64 ≤ z67 := (i_le ⟨by omega, by omega⟩ ⟨by omega, by omega⟩).mp c100
                              exact J282_101 _ _ _ _ hI (fr.rf) hP hS (lv_sub hl [0, 1, 2, 3, 4, 5] rfl)
                            · have c100 : ¬ z64 ≤ z67 := mt (i_le ⟨by omega, by omega⟩ ⟨by omega, by omega⟩).mpr c100
                              refine lv_iload_n hx hb dX12_ahead_259 rfl (lv_at hl 3 rfl) ?_
                              refine lv_if_eq (tgt := 282) hx hb dX12_ahead_260 (by decide) (fun c102 => ?_) (fun c102 => ?_)
                              · have c102 : z20 = 0 := (i_eq0 ⟨by omega, by omega⟩).mp c102
                                exact J282_101 _ _ _ _ hI (fr.rf) hP hS (lv_sub hl [0, 1, 2, 3, 4, 5] rfl)
                              · have c102 : ¬ z20 = 0 := mt (i_eq0 ⟨by omega, by omega⟩).mpr c102
                                refine lv_aload_n hx hb dX12_ahead_263 rfl (lv_at hl 5 rfl) ?_
                                refine lv_aload_n hx hb dX12_ahead_264 rfl (lv_at hl 5 rfl) ?_
                                have e_A99_7 : A99 0 7 = (A70 0 7) := (hj98.2 7 rfl)
                                refine va_get (D := (dC, dI)) (ci := 12) (v := .long (jI (A99 0 7))) (C := RX12) (T := TX12) (N := 85) hx hb hts hiX12 hown hK hP 0 wm0 rfl 7 (by decide) (hts _ (List.mem_of_getElem? (i := 20) rfl)) (fun _ h9 => h9) rfl dX12_ahead_265 ?_
                                refine tp_l (y := jI (A70 0 7)) (congrArg jI e_A99_7) ?_
                                have r_A70_0_7 : (-9223372036854775808 : Int) ≤ (A70 0 7) ∧ (A70 0 7) ≤ 9223372036854775807 := by rw [← e_A99_7]; exact hI 0 7
                                refine lv_bipush (v := iI 8) hx hb dX12_ahead_268 (by decide +kernel) ?_
                                refine lv_lshl hx hb dX12_ahead_270 rfl ?_
                                refine x_absl (fun z103 hz103 => ?_)
                                refine lv_aload_n hx hb dX12_ahead_271 rfl (lv_at hl 5 rfl) ?_
                                refine va_get (D := (dC, dI)) (ci := 12) (v := .ref (q 1)) (C := RX12) (T := TX12) (N := 85) hx hb hts hiX12 hown hK hP 0 wm0 rfl 0 (by decide) (hts _ (List.mem_of_getElem? (i := 3) rfl)) (fun _ h9 => h9) rfl dX12_ahead_272 ?_
                                refine lv_iload_n hx hb dX12_ahead_275 rfl (lv_at hl 4 rfl) ?_
                                have a_A49_1 : A49 1 = A 1 := (hj48.1 1 (by decide) rfl).trans a_A19_1
                                have a_A50_1 : A50 1 = A 1 := by rw [hA50]; exact a_A49_1
                                have a_A61_1 : A61 1 = A 1 := by rw [hA61]; exact a_A50_1
                                have a_A70_1 : A70 1 = A 1 := (hj69.1 1 (by decide) rfl).trans a_A61_1
                                have a_A99_1 : A99 1 = A 1 := (hj98.1 1 (by decide) rfl).trans a_A70_1
                                refine x_iald hx hb hK hP 1 1 wm1 rfl ⟨by omega, by omega⟩ (by decide) dX12_ahead_276 (fun z104 hz104 => ?_)
                                have rz104 : (0 : Int) ≤ z104 ∧ z104 ≤ 255 := by rw [hz104]; exact hI 1 _
                                have hz104 : z104 = A 1 (z68).toNat := hz104.trans (congrFun a_A99_1 _)
                                refine lv_i2l hx hb dX12_ahead_277 rfl ?_
                                refine x_absl (fun z105 hz105 => ?_)
                                refine lv_lor hx hb dX12_ahead_278 ?_
                                refine x_absl (fun z106 hz106 => ?_)
                                refine x_put (D := (dC, dI)) (ci := 12) (v := .long (jI z106)) (ty := .long) (C := RX12) (T := TX12) (N := 85) hx hb hts hiX12 tyX12 tyX12_ok nmX12 hown hK hP hDD hS 0 wm0 rfl 7 (by decide) (hts _ (List.mem_of_getElem? (i := 20) rfl)) (fun _ h9 => h9) rfl (by decide +kernel) rfl rfl (Nat.le_of_ble_eq_true rfl) dX12_ahead_279 (wf7 (v := z106)) (fun H locs hP hS => ?_)
                                have hI := hI.st (j := 0) (i := 7) (v := z106) (show (-9223372036854775808 : Int) ≤ z106 ∧ z106 ≤ 9223372036854775807 from ⟨by omega, by omega⟩)
                                exact J282_101 _ _ _ _ hI (fr.sf (fr.rf) rfl) hP hS (lv_sub hl [0, 1, 2, 3, 4, 5] rfl)
                          refine lv_icmp_ne (tgt := 252) hx hb dX12_ahead_243 (by decide) (fun c93 => ?_) (fun c93 => ?_)
                          · have c93 : ¬ z67 = z64 := mt (i_eq ⟨by omega, by omega⟩ ⟨by omega, by omega⟩).mpr c93
                            exact J252_94 _ _ _ _ hI (fr.rf) hP hS (lv_sub hl [0, 1, 2, 3, 4, 5] rfl)
                          · have c93 : z67 = z64 := (i_eq ⟨by omega, by omega⟩ ⟨by omega, by omega⟩).mp c93
                            refine lv_aload_n hx hb dX12_ahead_246 rfl (lv_at hl 5 rfl) ?_
                            refine lv_iconst (v := iI 1) hx hb dX12_ahead_247 (by decide +kernel) ?_
                            refine lv_iload_n hx hb dX12_ahead_248 rfl (lv_at hl 4 rfl) ?_
                            refine x_callv (As := [.int (iI 1), .int (iI z68)]) (rest := []) ⟨hx, hb, hml, hown, hts⟩ (mc_X12_blame l dC dI cB cI cJ cZ cQ q _ 1 z68 hI ⟨by omega, by omega⟩ ⟨by omega, by omega⟩) (cwV 2 hts g_mc_X12_ahead_7 rfl rfl rfl (by decide +kernel) ⟨Nat.le_of_ble_eq_true rfl, Nat.le_of_ble_eq_true rfl⟩) hK hDD hA0 hP hS 0 12 wm0 rfl rfl hl.1 (Nat.le_of_ble_eq_true rfl) dX12_ahead_249 (fun A95 H locs hw96 hP hS => ?_)
                            obtain ⟨hI, hf97, hw96⟩ := hw96
                            have r_A95_0_8 : (0 : Int) ≤ (A95 0 8) ∧ (A95 0 8) ≤ 5 := hI 0 8
                            exact J252_94 _ _ _ _ hI (fr.trans (fr.rf) hf97 rfl rfl) hP hS (lv_sub hl [0, 1, 2, 3, 4, 5] rfl)
                        refine lv_if_eq (tgt := 227) hx hb dX12_ahead_209 (by decide) (fun c80 => ?_) (fun c80 => ?_)
                        · have c80 : z20 = 0 := (i_eq0 ⟨by omega, by omega⟩).mp c80
                          refine lv_aload_n hx hb dX12_ahead_227 rfl (lv_at hl 5 rfl) ?_
                          refine va_get (D := (dC, dI)) (ci := 12) (v := .ref (q 1)) (C := RX12) (T := TX12) (N := 85) hx hb hts hiX12 hown hK hP 0 wm0 rfl 0 (by decide) (hts _ (List.mem_of_getElem? (i := 3) rfl)) (fun _ h9 => h9) rfl dX12_ahead_228 ?_
                          refine lv_iload_n hx hb dX12_ahead_231 rfl (lv_at hl 4 rfl) ?_
                          have a_A49_1 : A49 1 = A 1 := (hj48.1 1 (by decide) rfl).trans a_A19_1
                          have a_A50_1 : A50 1 = A 1 := by rw [hA50]; exact a_A49_1
                          have a_A61_1 : A61 1 = A 1 := by rw [hA61]; exact a_A50_1
                          have a_A70_1 : A70 1 = A 1 := (hj69.1 1 (by decide) rfl).trans a_A61_1
                          refine x_iald hx hb hK hP 1 1 wm1 rfl ⟨by omega, by omega⟩ (by decide) dX12_ahead_232 (fun z82 hz82 => ?_)
                          have rz82 : (0 : Int) ≤ z82 ∧ z82 ≤ 255 := by rw [hz82]; exact hI 1 _
                          have hz82 : z82 = A 1 (z68).toNat := hz82.trans (congrFun a_A70_1 _)
                          refine x_callSi (As := [.int (iI z82)]) (rest := []) ⟨hx, hb, hml, hown, hts⟩ (mc_X12_isDigit l dC dI cB cI cJ cZ cQ q _ z82 hI ⟨by omega, by omega⟩) (va_cwS 1 hts g_mc_X12_ahead_5 rfl rfl rfl (by decide +kernel) ⟨Nat.le_of_ble_eq_true rfl, Nat.le_of_ble_eq_true rfl⟩) hK hDD hA0 hP hS rfl hl.1 (Nat.le_of_ble_eq_true rfl) dX12_ahead_233 (fun z83 A84 H locs hw85 hP hS => ?_)
                          obtain ⟨rfl, hw85⟩ := hw85
                          refine lv_if_eq (tgt := 323) hx hb dX12_ahead_236 (by decide) (fun c86 => ?_) (fun c86 => ?_)
                          · have c86 : z83 = 0 := (i_eq0 ⟨by omega, by omega⟩).mp c86
                            refine lv_aload_n hx hb dX12_ahead_323 rfl (lv_at hl 5 rfl) ?_
                            refine lv_iload_n hx hb dX12_ahead_324 rfl (lv_at hl 4 rfl) ?_
                            refine x_put (D := (dC, dI)) (ci := 12) (v := .int (iI z68)) (ty := .int) (C := RX12) (T := TX12) (N := 85) hx hb hts hiX12 tyX12 tyX12_ok nmX12 hown hK hP hDD hS 0 wm0 rfl 5 (by decide) (hts _ (List.mem_of_getElem? (i := 1) rfl)) (fun _ h9 => h9) rfl (by decide +kernel) rfl rfl (Nat.le_of_ble_eq_true rfl) dX12_ahead_325 (wf5 (v := z68)) (fun H locs hP hS => ?_)
                            have hI := hI.st (j := 0) (i := 5) (v := z68) (show (0 : Int) ≤ z68 ∧ z68 ≤ 1600 from ⟨by omega, by omega⟩)
                            exact RET _ _ _ _ _ ⟨hI, fr.sf (fr.trans (fr_def hA61 (fr.sf (fr_def hA50 (fr.sf (fr.sf (fr.sf (fr.sf (fr.trans (fr_def hA19 (fr.sf (fr.sf (fr.sf (fr.rf) rfl) rfl) rfl)) hj48 rfl rfl) rfl) rfl) rfl) rfl)) rfl)) hj69 rfl rfl) rfl, trivial⟩ hP hS dX12_ahead_328
                          · have c86 : ¬ z83 = 0 := mt (i_eq0 ⟨by omega, by omega⟩).mpr c86
                            exact J239_81 _ _ _ hP hS (lv_sub hl [0, 1, 2, 3, 4, 5] rfl)
                        · have c80 : ¬ z20 = 0 := mt (i_eq0 ⟨by omega, by omega⟩).mpr c80
                          refine lv_aload_n hx hb dX12_ahead_212 rfl (lv_at hl 5 rfl) ?_
                          refine va_get (D := (dC, dI)) (ci := 12) (v := .ref (q 1)) (C := RX12) (T := TX12) (N := 85) hx hb hts hiX12 hown hK hP 0 wm0 rfl 0 (by decide) (hts _ (List.mem_of_getElem? (i := 3) rfl)) (fun _ h9 => h9) rfl dX12_ahead_213 ?_
                          refine lv_iload_n hx hb dX12_ahead_216 rfl (lv_at hl 4 rfl) ?_
                          have a_A49_1 : A49 1 = A 1 := (hj48.1 1 (by decide) rfl).trans a_A19_1
                          have a_A50_1 : A50 1 = A 1 := by rw [hA50]; exact a_A49_1
                          have a_A61_1 : A61 1 = A 1 := by rw [hA61]; exact a_A50_1
                          have a_A70_1 : A70 1 = A 1 := (hj69.1 1 (by decide) rfl).trans a_A61_1
                          refine x_iald hx hb hK hP 1 1 wm1 rfl ⟨by omega, by omega⟩ (by decide) dX12_ahead_217 (fun z87 hz87 => ?_)
                          have rz87 : (0 : Int) ≤ z87 ∧ z87 ≤ 255 := by rw [hz87]; exact hI 1 _
                          have hz87 : z87 = A 1 (z68).toNat := hz87.trans (congrFun a_A70_1 _)
                          refine x_callSi (As := [.int (iI z87)]) (rest := []) ⟨hx, hb, hml, hown, hts⟩ (mc_X12_isLetter l dC dI cB cI cJ cZ cQ q _ z87 hI ⟨by omega, by omega⟩) (va_cwS 1 hts g_mc_X12_ahead_6 rfl rfl rfl (by decide +kernel) ⟨Nat.le_of_ble_eq_true rfl, Nat.le_of_ble_eq_true rfl⟩) hK hDD hA0 hP hS rfl hl.1 (Nat.le_of_ble_eq_true rfl) dX12_ahead_218 (fun z88 A89 H locs hw90 hP hS => ?_)
                          obtain ⟨rfl, hw90⟩ := hw90
                          refine lv_if_eq (tgt := 323) hx hb dX12_ahead_221 (by decide) (fun c91 => ?_) (fun c91 => ?_)
                          · have c91 : z88 = 0 := (i_eq0 ⟨by omega, by omega⟩).mp c91
                            refine lv_aload_n hx hb dX12_ahead_323 rfl (lv_at hl 5 rfl) ?_
                            refine lv_iload_n hx hb dX12_ahead_324 rfl (lv_at hl 4 rfl) ?_
                            refine x_put (D := (dC, dI)) (ci := 12) (v := .int (iI z68)) (ty := .int) (C := RX12) (T := TX12) (N := 85) hx hb hts hiX12 tyX12 tyX12_ok nmX12 hown hK hP hDD hS 0 wm0 rfl 5 (by decide) (hts _ (List.mem_of_getElem? (i := 1) rfl)) (fun _ h9 => h9) rfl (by decide +kernel) rfl rfl (Nat.le_of_ble_eq_true rfl) dX12_ahead_325 (wf5 (v := z68)) (fun H locs hP hS => ?_)
                            have hI := hI.st (j := 0) (i := 5) (v := z68) (show (0 : Int) ≤ z68 ∧ z68 ≤ 1600 from ⟨by omega, by omega⟩)
                            exact RET _ _ _ _ _ ⟨hI, fr.sf (fr.trans (fr_def hA61 (fr.sf (fr_def hA50 (fr.sf (fr.sf (fr.sf (fr.sf (fr.trans (fr_def hA19 (fr.sf (fr.sf (fr.sf (fr.rf) rfl) rfl) rfl)) hj48 rfl rfl) rfl) rfl) rfl) rfl)) rfl)) hj69 rfl rfl) rfl, trivial⟩ hP hS dX12_ahead_328
                          · have c91 : ¬ z88 = 0 := mt (i_eq0 ⟨by omega, by omega⟩).mpr c91
                            refine lv_goto (tgt := 239) hx hb dX12_ahead_224 (by decide) ?_
                            exact J239_81 _ _ _ hP hS (lv_sub hl [0, 1, 2, 3, 4, 5] rfl)
                  exact L200_71 _ 0 z1 _ _ _ _ (by omega) (by omega) (by omega) (by omega) (by omega) rfl hI (fr.rf) hP hS (lv_sub hl [0, 1, 2, 3, 4, 5] rfl)
                refine lv_if_eq (tgt := 194) hx hb dX12_ahead_186 (by decide) (fun c62 => ?_) (fun c62 => ?_)
                · have c62 : z20 = 0 := (i_eq0 ⟨by omega, by omega⟩).mp c62
                  refine lv_iconst (v := iI 4) hx hb dX12_ahead_194 (by decide +kernel) ?_
                  exact J195_63 4 _ _ _ (by omega) hP hS (lv_sub hl [0, 1, 2, 3] rfl)
                · have c62 : ¬ z20 = 0 := mt (i_eq0 ⟨by omega, by omega⟩).mpr c62
                  refine lv_bipush (v := iI 6) hx hb dX12_ahead_189 (by decide +kernel) ?_
                  refine lv_goto (tgt := 195) hx hb dX12_ahead_191 (by decide) ?_
                  exact J195_63 6 _ _ _ (by omega) hP hS (lv_sub hl [0, 1, 2, 3] rfl)
              refine lv_if_eq (tgt := 181) hx hb dX12_ahead_174 (by decide) (fun c56 => ?_) (fun c56 => ?_)
              · have c56 : z20 = 0 := (i_eq0 ⟨by omega, by omega⟩).mp c56
                refine lv_iconst (v := iI 2) hx hb dX12_ahead_181 (by decide +kernel) ?_
                exact J182_57 2 _ _ _ (by omega) hP hS (lv_sub hl [0, 1, 2, 3] rfl)
              · have c56 : ¬ z20 = 0 := mt (i_eq0 ⟨by omega, by omega⟩).mpr c56
                refine lv_iconst (v := iI 1) hx hb dX12_ahead_177 (by decide +kernel) ?_
                refine lv_goto (tgt := 182) hx hb dX12_ahead_178 (by decide) ?_
                exact J182_57 1 _ _ _ (by omega) hP hS (lv_sub hl [0, 1, 2, 3] rfl)
            refine lv_if_ne (tgt := 172) hx hb dX12_ahead_154 (by decide) (fun c51 => ?_) (fun c51 => ?_)
            · have c51 : ¬ z20 = 0 := mt (i_eq0 ⟨by omega, by omega⟩).mpr c51
              exact J172_52 _ _ _ hP hS (lv_sub hl [0, 1, 2, 3] rfl)
            · have c51 : z20 = 0 := (i_eq0 ⟨by omega, by omega⟩).mp c51
              refine lv_iload_n hx hb dX12_ahead_157 rfl (lv_at hl 0 rfl) ?_
              refine lv_if_ne (tgt := 172) hx hb dX12_ahead_158 (by decide) (fun c53 => ?_) (fun c53 => ?_)
              · have c53 : ¬ z24 = 0 := mt (i_eq0 ⟨by omega, by omega⟩).mpr c53
                exact J172_52 _ _ _ hP hS (lv_sub hl [0, 1, 2, 3] rfl)
              · have c53 : z24 = 0 := (i_eq0 ⟨by omega, by omega⟩).mp c53
                refine lv_aload_n hx hb dX12_ahead_161 rfl (lv_at hl 3 rfl) ?_
                refine lv_aload_n hx hb dX12_ahead_162 rfl (lv_at hl 3 rfl) ?_
                refine va_get (D := (dC, dI)) (ci := 12) (v := .ref (q 1)) (C := RX12) (T := TX12) (N := 85) hx hb hts hiX12 hown hK hP 0 wm0 rfl 0 (by decide) (hts _ (List.mem_of_getElem? (i := 3) rfl)) (fun _ h9 => h9) rfl dX12_ahead_163 ?_
                refine lv_iload_n hx hb dX12_ahead_166 rfl (lv_at hl 2 rfl) ?_
                have a_A49_1 : A49 1 = A 1 := (hj48.1 1 (by decide) rfl).trans a_A19_1
                have a_A50_1 : A50 1 = A 1 := by rw [hA50]; exact a_A49_1
                refine x_iald hx hb hK hP 1 1 wm1 rfl ⟨by omega, by omega⟩ (by decide) dX12_ahead_167 (fun z54 hz54 => ?_)
                have rz54 : (0 : Int) ≤ z54 ∧ z54 ≤ 255 := by rw [hz54]; exact hI 1 _
                have hz54 : z54 = A 1 (z1).toNat := hz54.trans (congrFun a_A50_1 _)
                have ez54 : z54 = z18 := hz54.trans hz18.symm
                refine x_put (D := (dC, dI)) (ci := 12) (v := .int (iI z54)) (ty := .int) (C := RX12) (T := TX12) (N := 85) hx hb hts hiX12 tyX12 tyX12_ok nmX12 hown hK hP hDD hS 0 wm0 rfl 6 (by decide) (hts _ (List.mem_of_getElem? (i := 19) rfl)) (fun _ h9 => h9) rfl (by decide +kernel) rfl rfl (Nat.le_of_ble_eq_true rfl) dX12_ahead_168 (wf6 (v := z54)) (fun H locs hP hS => ?_)
                have hI := hI.st (j := 0) (i := 6) (v := z54) (show (-2147483648 : Int) ≤ z54 ∧ z54 ≤ 2147483647 from ⟨by omega, by omega⟩)
                exact RET _ _ _ _ _ ⟨hI, fr.sf (fr_def hA50 (fr.sf (fr.sf (fr.sf (fr.sf (fr.trans (fr_def hA19 (fr.sf (fr.sf (fr.sf (fr.rf) rfl) rfl) rfl)) hj48 rfl rfl) rfl) rfl) rfl) rfl)) rfl, trivial⟩ hP hS dX12_ahead_171
          have J93_28 : ∀ (H : Heap) (locs : List Loc) (ls : Array Slot), va_P (dC, dI) vwCl (WM cI cJ cZ q A19) H → va_S AS s.heap H locs → lv_has ls 6 [(3, .int (iI z24)), (2, .int (iI z20)), (1, .int (iI z1)), (0, .ref (q 0))] → W p l e (headSpec ws_mc_X12_ahead ({ frames := 1, cells := 0, slots := 0, locals := 22 } : Room)).room s m [.ref (q 0)].toArray below meth c H locs 0 0 Q (F0 m 93 ls []) := by
            intro H locs ls hP hS hl
            refine lv_iload_n hx hb dX12_ahead_93 rfl (lv_at hl 2 rfl) ?_
            refine lv_if_le (tgt := 131) hx hb dX12_ahead_94 (by decide) (fun c32 => ?_) (fun c32 => ?_)
            · have c32 : z1 ≤ 0 := (i_le0 ⟨by omega, by omega⟩).mp c32
              exact J131_29 _ _ _ _ hI (fr.rf) hP hS (lv_sub hl [0, 1, 2, 3] rfl)
            · have c32 : ¬ z1 ≤ 0 := mt (i_le0 ⟨by omega, by omega⟩).mpr c32
              refine lv_aload_n hx hb dX12_ahead_97 rfl (lv_at hl 3 rfl) ?_
              refine va_get (D := (dC, dI)) (ci := 12) (v := .ref (q 1)) (C := RX12) (T := TX12) (N := 85) hx hb hts hiX12 hown hK hP 0 wm0 rfl 0 (by decide) (hts _ (List.mem_of_getElem? (i := 3) rfl)) (fun _ h9 => h9) rfl dX12_ahead_98 ?_
              refine lv_iload_n hx hb dX12_ahead_101 rfl (lv_at hl 2 rfl) ?_
              refine lv_iconst (v := iI 1) hx hb dX12_ahead_102 (by decide +kernel) ?_
              refine x_subv (v := z1 - 1) hx hb dX12_ahead_103 (by omega) ?_
              refine x_iald hx hb hK hP 1 1 wm1 rfl ⟨by omega, by omega⟩ (by decide) dX12_ahead_104 (fun z33 hz33 => ?_)
              have rz33 : (0 : Int) ≤ z33 ∧ z33 ≤ 255 := by rw [hz33]; exact hI 1 _
              have hz33 : z33 = A 1 (z1 - 1).toNat := hz33.trans (congrFun a_A19_1 _)
              refine x_callSi (As := [.int (iI z33)]) (rest := []) ⟨hx, hb, hml, hown, hts⟩ (mc_X12_isLetter l dC dI cB cI cJ cZ cQ q _ z33 hI ⟨by omega, by omega⟩) (va_cwS 1 hts g_mc_X12_ahead_2 rfl rfl rfl (by decide +kernel) ⟨Nat.le_of_ble_eq_true rfl, Nat.le_of_ble_eq_true rfl⟩) hK hDD hA0 hP hS rfl hl.1 (Nat.le_of_ble_eq_true rfl) dX12_ahead_105 (fun z34 A35 H locs hw36 hP hS => ?_)
              obtain ⟨rfl, hw36⟩ := hw36
              have J125_38 : ∀ (H : Heap) (locs : List Loc) (ls : Array Slot), va_P (dC, dI) vwCl (WM cI cJ cZ q A19) H → va_S AS s.heap H locs → lv_has ls 6 [(3, .int (iI z24)), (2, .int (iI z20)), (1, .int (iI z1)), (0, .ref (q 0))] → W p l e (headSpec ws_mc_X12_ahead ({ frames := 1, cells := 0, slots := 0, locals := 22 } : Room)).room s m [.ref (q 0)].toArray below meth c H locs 0 0 Q (F0 m 125 ls []) := by
                intro H locs ls hP hS hl
                refine lv_aload_n hx hb dX12_ahead_125 rfl (lv_at hl 3 rfl) ?_
                refine lv_iconst (v := iI 1) hx hb dX12_ahead_126 (by decide +kernel) ?_
                refine lv_iload_n hx hb dX12_ahead_127 rfl (lv_at hl 2 rfl) ?_
                refine x_callv (As := [.int (iI 1), .int (iI z1)]) (rest := []) ⟨hx, hb, hml, hown, hts⟩ (mc_X12_blame l dC dI cB cI cJ cZ cQ q _ 1 z1 hI ⟨by omega, by omega⟩ ⟨by omega, by omega⟩) (cwV 2 hts g_mc_X12_ahead_4 rfl rfl rfl (by decide +kernel) ⟨Nat.le_of_ble_eq_true rfl, Nat.le_of_ble_eq_true rfl⟩) hK hDD hA0 hP hS 0 12 wm0 rfl rfl hl.1 (Nat.le_of_ble_eq_true rfl) dX12_ahead_128 (fun A45 H locs hw46 hP hS => ?_)
                obtain ⟨hI, hf47, hw46⟩ := hw46
                have r_A45_0_8 : (0 : Int) ≤ (A45 0 8) ∧ (A45 0 8) ≤ 5 := hI 0 8
                exact J131_29 _ _ _ _ hI (fr.trans (fr.rf) hf47 rfl rfl) hP hS (lv_sub hl [0, 1, 2, 3] rfl)
              refine lv_if_ne (tgt := 125) hx hb dX12_ahead_108 (by decide) (fun c37 => ?_) (fun c37 => ?_)
              · have c37 : ¬ z34 = 0 := mt (i_eq0 ⟨by omega, by omega⟩).mpr c37
                exact J125_38 _ _ _ hP hS (lv_sub hl [0, 1, 2, 3] rfl)
              · have c37 : z34 = 0 := (i_eq0 ⟨by omega, by omega⟩).mp c37
                refine lv_aload_n hx hb dX12_ahead_111 rfl (lv_at hl 3 rfl) ?_
                refine va_get (D := (dC, dI)) (ci := 12) (v := .ref (q 1)) (C := RX12) (T := TX12) (N := 85) hx hb hts hiX12 hown hK hP 0 wm0 rfl 0 (by decide) (hts _ (List.mem_of_getElem? (i := 3) rfl)) (fun _ h9 => h9) rfl dX12_ahead_112 ?_
                refine lv_iload_n hx hb dX12_ahead_115 rfl (lv_at hl 2 rfl) ?_
                refine lv_iconst (v := iI 1) hx hb dX12_ahead_116 (by decide +kernel) ?_
                refine x_subv (v := z1 - 1) hx hb dX12_ahead_117 (by omega) ?_
                refine x_iald hx hb hK hP 1 1 wm1 rfl ⟨by omega, by omega⟩ (by decide) dX12_ahead_118 (fun z39 hz39 => ?_)
                have rz39 : (0 : Int) ≤ z39 ∧ z39 ≤ 255 := by rw [hz39]; exact hI 1 _
                have hz39 : z39 = A 1 (z1 - 1).toNat := hz39.trans (congrFun a_A19_1 _)
                have ez39 : z39 = z33 := hz39.trans hz33.symm
                refine x_callSi (As := [.int (iI z39)]) (rest := []) ⟨hx, hb, hml, hown, hts⟩ (mc_X12_isDigit l dC dI cB cI cJ cZ cQ q _ z39 hI ⟨by omega, by omega⟩) (va_cwS 1 hts g_mc_X12_ahead_3 rfl rfl rfl (by decide +kernel) ⟨Nat.le_of_ble_eq_true rfl, Nat.le_of_ble_eq_true rfl⟩) hK hDD hA0 hP hS rfl hl.1 (Nat.le_of_ble_eq_true rfl) dX12_ahead_119 (fun z40 A41 H locs hw42 hP hS => ?_)
                obtain ⟨rfl, hw42⟩ := hw42
                refine lv_if_eq (tgt := 131) hx hb dX12_ahead_122 (by decide) (fun c43 => ?_) (fun c43 => ?_)
                · have c43 : z40 = 0 := (i_eq0 ⟨by omega, by omega⟩).mp c43
                  exact J131_29 _ _ _ _ hI (fr.rf) hP hS (lv_sub hl [0, 1, 2, 3] rfl)
                · have c43 : ¬ z40 = 0 := mt (i_eq0 ⟨by omega, by omega⟩).mpr c43
                  exact J125_38 _ _ _ hP hS (lv_sub hl [0, 1, 2, 3] rfl)
          refine lv_if_ne (tgt := 93) hx hb dX12_ahead_86 (by decide) (fun c27 => ?_) (fun c27 => ?_)
          · have c27 : ¬ z20 = 0 := mt (i_eq0 ⟨by omega, by omega⟩).mpr c27
            exact J93_28 _ _ _ hP hS (lv_sub hl [0, 1, 2, 3] rfl)
          · have c27 : z20 = 0 := (i_eq0 ⟨by omega, by omega⟩).mp c27
            refine lv_iload_n hx hb dX12_ahead_89 rfl (lv_at hl 0 rfl) ?_
            refine lv_if_eq (tgt := 131) hx hb dX12_ahead_90 (by decide) (fun c30 => ?_) (fun c30 => ?_)
            · have c30 : z24 = 0 := (i_eq0 ⟨by omega, by omega⟩).mp c30
              exact J131_29 _ _ _ _ hI (fr.rf) hP hS (lv_sub hl [0, 1, 2, 3] rfl)
            · have c30 : ¬ z24 = 0 := mt (i_eq0 ⟨by omega, by omega⟩).mpr c30
              exact J93_28 _ _ _ hP hS (lv_sub hl [0, 1, 2, 3] rfl)
        · have c17 : ¬ z1 < (A 0 2) := mt (i_lt ⟨by omega, by omega⟩ ⟨by omega, by omega⟩).mpr c17
          exact RET _ _ _ _ _ ⟨hI, fr.sf (fr.sf (fr.sf (fr.rf) rfl) rfl) rfl, trivial⟩ hP hS dX12_ahead_64
      refine lv_icmp_ge (tgt := 41) hx hb dX12_ahead_10 (by decide) (fun c8 => ?_) (fun c8 => ?_)
      · have c8 : (A 0 2) ≤ z1 := (i_le ⟨by omega, by omega⟩ ⟨by omega, by omega⟩).mp c8
        exact J41_9 _ _ _ hP hS (lv_sub hl [0, 1] rfl)
      · have c8 : ¬ (A 0 2) ≤ z1 := mt (i_le ⟨by omega, by omega⟩ ⟨by omega, by omega⟩).mpr c8
        refine lv_aload_n hx hb dX12_ahead_13 rfl (lv_at hl 1 rfl) ?_
        refine va_get (D := (dC, dI)) (ci := 12) (v := .ref (q 1)) (C := RX12) (T := TX12) (N := 85) hx hb hts hiX12 hown hK hP 0 wm0 rfl 0 (by decide) (hts _ (List.mem_of_getElem? (i := 3) rfl)) (fun _ h9 => h9) rfl dX12_ahead_14 ?_
        refine lv_iload_n hx hb dX12_ahead_17 rfl (lv_at hl 0 rfl) ?_
        refine x_iald hx hb hK hP 1 1 wm1 rfl ⟨by omega, by omega⟩ (by decide) dX12_ahead_18 (fun z10 hz10 => ?_)
        have rz10 : (0 : Int) ≤ z10 ∧ z10 ≤ 255 := by rw [hz10]; exact hI 1 _
        have hz10 : z10 = A 1 (z1).toNat := hz10
        refine lv_bipush (v := iI 32) hx hb dX12_ahead_19 (by decide +kernel) ?_
        have J35_12 : ∀ (H : Heap) (locs : List Loc) (ls : Array Slot), va_P (dC, dI) vwCl (WM cI cJ cZ q A) H → va_S AS s.heap H locs → lv_has ls 6 [(1, .int (iI z1)), (0, .ref (q 0))] → W p l e (headSpec ws_mc_X12_ahead ({ frames := 1, cells := 0, slots := 0, locals := 22 } : Room)).room s m [.ref (q 0)].toArray below meth c H locs 0 0 Q (F0 m 35 ls []) := by
          intro H locs ls hP hS hl
          refine lv_iinc (v := iI (z1 + 1)) (lv' := [(1, .int (iI (z1 + 1))), (0, .ref (q 0))]) hx hb dX12_ahead_35 hl (k := 0) rfl (i_inc (by omega)) (by decide) rfl (fun ls hl => ?_)
          refine lv_goto (tgt := 5) hx hb dX12_ahead_38 (by decide) ?_
          exact ih4 _ (by omega) (z1 + 1) _ _ _ (by omega) (by omega) rfl hP hS (lv_sub hl [0, 1] rfl)
        refine lv_icmp_eq (tgt := 35) hx hb dX12_ahead_21 (by decide) (fun c11 => ?_) (fun c11 => ?_)
        · have c11 : z10 = 32 := (i_eq ⟨by omega, by omega⟩ ⟨by decide, by decide⟩).mp c11
          exact J35_12 _ _ _ hP hS (lv_sub hl [0, 1] rfl)
        · have c11 : ¬ z10 = 32 := mt (i_eq ⟨by omega, by omega⟩ ⟨by decide, by decide⟩).mpr c11
          refine lv_aload_n hx hb dX12_ahead_24 rfl (lv_at hl 1 rfl) ?_
          refine va_get (D := (dC, dI)) (ci := 12) (v := .ref (q 1)) (C := RX12) (T := TX12) (N := 85) hx hb hts hiX12 hown hK hP 0 wm0 rfl 0 (by decide) (hts _ (List.mem_of_getElem? (i := 3) rfl)) (fun _ h9 => h9) rfl dX12_ahead_25 ?_
          refine lv_iload_n hx hb dX12_ahead_28 rfl (lv_at hl 0 rfl) ?_
          refine x_iald hx hb hK hP 1 1 wm1 rfl ⟨by omega, by omega⟩ (by decide) dX12_ahead_29 (fun z13 hz13 => ?_)
          have rz13 : (0 : Int) ≤ z13 ∧ z13 ≤ 255 := by rw [hz13]; exact hI 1 _
          have hz13 : z13 = A 1 (z1).toNat := hz13
          have ez13 : z13 = z10 := hz13.trans hz10.symm
          refine lv_bipush (v := iI 10) hx hb dX12_ahead_30 (by decide +kernel) ?_
          refine lv_icmp_ne (tgt := 41) hx hb dX12_ahead_32 (by decide) (fun c14 => ?_) (fun c14 => ?_)
          · have c14 : ¬ z13 = 10 := mt (i_eq ⟨by omega, by omega⟩ ⟨by decide, by decide⟩).mpr c14
            exact J41_9 _ _ _ hP hS (lv_sub hl [0, 1] rfl)
          · have c14 : z13 = 10 := (i_eq ⟨by omega, by omega⟩ ⟨by decide, by decide⟩).mp c14
            exact J35_12 _ _ _ hP hS (lv_sub hl [0, 1] rfl)
  exact L5_3 _ (A 0 5) _ _ _ (by omega) (by omega) rfl hP hS (lv_sub hl [0, 1] rfl)

def ws_mc_X12_must : List Cond := .code yX12_must cX12_must 2 none :: ([.methodLink RX12 290 yX12_isSign, .instanceMethod yX12_isSign, .selects RX12 yX12_isSign yX12_isSign, .initialized RX12, .code yX12_isSign cX12_isSign 2 (some .boolean), .fieldLink RX12 20 "StackKeysModel" "sign" "I", .fieldLink RX12 29 "StackKeysModel" "value" "I", .fieldLink RX12 23 "StackKeysModel" "signAt" "I", .methodLink RX12 286 yX12_blame, .instanceMethod yX12_blame, .selects RX12 yX12_blame yX12_blame, .code yX12_blame cX12_blame 3 none, .fieldLink RX12 36 "StackKeysModel" "faultKind" "I", .fieldLink RX12 39 "StackKeysModel" "faultPlace" "I", .methodLink RX12 293 yX12_ahead, .instanceMethod yX12_ahead, .selects RX12 yX12_ahead yX12_ahead, .code yX12_ahead cX12_ahead 6 none, .fieldLink RX12 26 "StackKeysModel" "signEnd" "I", .fieldLink RX12 17 "StackKeysModel" "size" "I", .fieldLink RX12 7 "StackKeysModel" "tape" "[I", .methodLink RX12 279 yX12_isLetter, .static yX12_isLetter, .code yX12_isLetter cX12_isLetter 1 (some .boolean), .methodLink RX12 283 yX12_isDigit, .static yX12_isDigit, .code yX12_isDigit cX12_isDigit 1 (some .boolean), .fieldLink RX12 32 "StackKeysModel" "word" "J"] ++ wsX120)
set_option maxRecDepth 20000 in
theorem g_mc_X12_must_0 : GoodIn ws_mc_X12_must (wsV RX12 290 RX12 yX12_isSign ws_mc_X12_isSign) := goodIn_r _ [1, 2, 3, 4, 5, 6, 7, 29, 30, 31, 32, 33, 34, 35, 36, 37, 38, 39, 40, 41, 42, 43, 44, 45, 46, 47, 48, 49, 50, 51, 52, 53, 54, 55, 56, 57, 58, 59, 60, 61, 62, 63, 64, 65, 66, 67, 68, 69, 70, 71, 72, 73, 74, 75, 76, 77, 78, 79, 80, 81, 82, 83, 84, 85, 86, 87, 88, 89, 90, 91, 92, 93, 94, 95, 96, 97, 98, 99, 100, 101, 102, 103, 104, 105, 106, 107, 108, 109, 110, 111, 112, 113] (by decide +kernel) (by decide +kernel)
set_option maxRecDepth 20000 in
theorem g_mc_X12_must_1 : GoodIn ws_mc_X12_must (wsV RX12 286 RX12 yX12_blame ws_mc_X12_blame) := goodIn_r _ [9, 10, 11, 4, 12, 13, 14, 29, 30, 31, 32, 33, 34, 35, 36, 37, 38, 39, 40, 41, 42, 43, 44, 45, 46, 47, 48, 49, 50, 51, 52, 53, 54, 55, 56, 57, 58, 59, 60, 61, 62, 63, 64, 65, 66, 67, 68, 69, 70, 71, 72, 73, 74, 75, 76, 77, 78, 79, 80, 81, 82, 83, 84, 85, 86, 87, 88, 89, 90, 91, 92, 93, 94, 95, 96, 97, 98, 99, 100, 101, 102, 103, 104, 105, 106, 107, 108, 109, 110, 111, 112, 113] (by decide +kernel) (by decide +kernel)
set_option maxRecDepth 20000 in
theorem g_mc_X12_must_2 : GoodIn ws_mc_X12_must (wsV RX12 293 RX12 yX12_ahead ws_mc_X12_ahead) := goodIn_r _ [15, 16, 17, 4, 18, 19, 20, 21, 8, 6, 22, 23, 4, 24, 25, 26, 27, 9, 10, 11, 12, 13, 14, 7, 28, 29, 30, 31, 32, 33, 34, 35, 36, 37, 38, 39, 40, 41, 42, 43, 44, 45, 46, 47, 48, 49, 50, 51, 52, 53, 54, 55, 56, 57, 58, 59, 60, 61, 62, 63, 64, 65, 66, 67, 68, 69, 70, 71, 72, 73, 74, 75, 76, 77, 78, 79, 80, 81, 82, 83, 84, 85, 86, 87, 88, 89, 90, 91, 92, 93, 94, 95, 96, 97, 98, 99, 100, 101, 102, 103, 104, 105, 106, 107, 108, 109, 110, 111, 112, 113] (by decide +kernel) (by decide +kernel)
set_option maxHeartbeats 4000000 in
set_option maxRecDepth 100000 in
theorem mc_X12_must (l : Launch) (dC : Nat → ClassId) (dI : Nat → Nat → Nat) (cB cI cJ cZ cQ : ClassId) (q : Nat → Nat) (A : St) (x1 : Int) (hI : IM A) (hx1 : (-2147483648 : Int) ≤ x1 ∧ x1 ≤ 2147483647) : XMv l yX12_must ws_mc_X12_must ({ frames := 2, cells := 0, slots := 0, locals := 47 } : Room) (dC, dI) (tyA cB cI cJ cZ cQ) (WM cI cJ cZ q) A [.ref (q 0), .int (iI x1)] (fun u => IM u ∧ fr [] [3, 4, 5, 6, 7, 8, 9] A u ∧ (True)) := by
  refine x_metv (cc := cX12_must) (maxL := 2) WM_adr (by decide +kernel) rfl (Nat.le_of_ble_eq_true rfl) (fun p e s m below meth c Q AS ls hx hb hml hown hts hK hDD hA0 hP hS hl RET => ?_)
  have hown : s.vm.findClass RX12 = some m.cls := hown
  have hl : lv_has ls 2 [(0, .ref (q 0)), (1, .int (iI x1))] := hl
  have hiX12 : ∀ w ∈ u_ws RX12 TX12 85, w ∈ ws_mc_X12_must := fun w h => List.mem_cons_of_mem _ (List.mem_append_right _ h)
  obtain ⟨H, hHe⟩ : ∃ H : Heap, H = s.heap := ⟨_, rfl⟩
  rw [← hHe] at hP
  have hS : va_S AS s.heap H [] := by rw [hHe]; exact hS
  suffices hgo : ∀ locs : List Loc, va_S AS s.heap H locs → W p l e (headSpec ws_mc_X12_must ({ frames := 2, cells := 0, slots := 0, locals := 47 } : Room)).room s m [.ref (q 0), .int (iI x1)].toArray below meth c H locs 0 0 Q (F0 m 0 ls []) by
    have := hgo [] hS
    rw [hHe] at this
    exact this
  clear hS hHe
  intro locs hS
  refine lv_aload_n hx hb dX12_must_0 rfl (lv_at hl 0 rfl) ?_
  refine lv_iload_n hx hb dX12_must_1 rfl (lv_at hl 1 rfl) ?_
  refine x_calli (As := [.int (iI x1)]) (rest := []) ⟨hx, hb, hml, hown, hts⟩ (mc_X12_isSign l dC dI cB cI cJ cZ cQ q _ x1 hI ⟨by omega, by omega⟩) (cwV 1 hts g_mc_X12_must_0 rfl rfl rfl (by decide +kernel) ⟨Nat.le_of_ble_eq_true rfl, Nat.le_of_ble_eq_true rfl⟩) hK hDD hA0 hP hS 0 12 wm0 rfl rfl hl.1 (Nat.le_of_ble_eq_true rfl) dX12_must_2 (fun z1 A2 H locs hw3 hP hS => ?_)
  obtain ⟨rfl, hw3⟩ := hw3
  have J17_5 : ∀ (A10 : St) (H : Heap) (locs : List Loc) (ls : Array Slot), IM A10 → fr [] [8, 9] A A10 → va_P (dC, dI) vwCl (WM cI cJ cZ q A10) H → va_S AS s.heap H locs → lv_has ls 2 [(0, .ref (q 0)), (1, .int (iI x1))] → W p l e (headSpec ws_mc_X12_must ({ frames := 2, cells := 0, slots := 0, locals := 47 } : Room)).room s m [.ref (q 0), .int (iI x1)].toArray below meth c H locs 0 0 Q (F0 m 17 ls []) := by
    intro A10 H locs ls hI hj9 hP hS hl
    refine lv_aload_n hx hb dX12_must_17 rfl (lv_at hl 0 rfl) ?_
    refine va_get (D := (dC, dI)) (ci := 12) (v := .int (iI (A10 0 8))) (C := RX12) (T := TX12) (N := 85) hx hb hts hiX12 hown hK hP 0 wm0 rfl 8 (by decide) (hts _ (List.mem_of_getElem? (i := 13) rfl)) (fun _ h9 => h9) rfl dX12_must_18 ?_
    have r_A10_0_8 : (0 : Int) ≤ (A10 0 8) ∧ (A10 0 8) ≤ 5 := hI 0 8
    refine lv_if_ne (tgt := 28) hx hb dX12_must_21 (by decide) (fun c11 => ?_) (fun c11 => ?_)
    · have c11 : ¬ (A10 0 8) = 0 := mt (i_eq0 ⟨by omega, by omega⟩).mpr c11
      exact RET _ _ _ _ _ ⟨hI, fr.trans (fr.rf) hj9 rfl rfl, trivial⟩ hP hS dX12_must_28
    · have c11 : (A10 0 8) = 0 := (i_eq0 ⟨by omega, by omega⟩).mp c11
      refine lv_aload_n hx hb dX12_must_24 rfl (lv_at hl 0 rfl) ?_
      refine x_callv (As := []) (rest := []) ⟨hx, hb, hml, hown, hts⟩ (mc_X12_ahead l dC dI cB cI cJ cZ cQ q _ hI) (cwV 0 hts g_mc_X12_must_2 rfl rfl rfl (by decide +kernel) ⟨Nat.le_of_ble_eq_true rfl, Nat.le_of_ble_eq_true rfl⟩) hK hDD hA0 hP hS 0 12 wm0 rfl rfl hl.1 (Nat.le_of_ble_eq_true rfl) dX12_must_25 (fun A12 H locs hw13 hP hS => ?_)
      obtain ⟨hI, hf14, hw13⟩ := hw13
      clear hw13
      exact RET _ _ _ _ _ ⟨hI, fr.trans (fr.trans (fr.rf) hj9 rfl rfl) hf14 rfl rfl, trivial⟩ hP hS dX12_must_28
  refine lv_if_ne (tgt := 17) hx hb dX12_must_5 (by decide) (fun c4 => ?_) (fun c4 => ?_)
  · have c4 : ¬ z1 = 0 := mt (i_eq0 ⟨by omega, by omega⟩).mpr c4
    exact J17_5 _ _ _ _ hI (fr.rf) hP hS (lv_sub hl [0, 1] rfl)
  · have c4 : z1 = 0 := (i_eq0 ⟨by omega, by omega⟩).mp c4
    refine lv_aload_n hx hb dX12_must_8 rfl (lv_at hl 0 rfl) ?_
    refine lv_iconst (v := iI 1) hx hb dX12_must_9 (by decide +kernel) ?_
    refine lv_aload_n hx hb dX12_must_10 rfl (lv_at hl 0 rfl) ?_
    refine va_get (D := (dC, dI)) (ci := 12) (v := .int (iI (A 0 4))) (C := RX12) (T := TX12) (N := 85) hx hb hts hiX12 hown hK hP 0 wm0 rfl 4 (by decide) (hts _ (List.mem_of_getElem? (i := 8) rfl)) (fun _ h9 => h9) rfl dX12_must_11 ?_
    have r_A_0_4 : (0 : Int) ≤ (A 0 4) ∧ (A 0 4) ≤ 1600 := hI 0 4
    refine x_callv (As := [.int (iI 1), .int (iI (A 0 4))]) (rest := []) ⟨hx, hb, hml, hown, hts⟩ (mc_X12_blame l dC dI cB cI cJ cZ cQ q _ 1 (A 0 4) hI ⟨by omega, by omega⟩ ⟨by omega, by omega⟩) (cwV 2 hts g_mc_X12_must_1 rfl rfl rfl (by decide +kernel) ⟨Nat.le_of_ble_eq_true rfl, Nat.le_of_ble_eq_true rfl⟩) hK hDD hA0 hP hS 0 12 wm0 rfl rfl hl.1 (Nat.le_of_ble_eq_true rfl) dX12_must_14 (fun A6 H locs hw7 hP hS => ?_)
    obtain ⟨hI, hf8, hw7⟩ := hw7
    have r_A6_0_8 : (0 : Int) ≤ (A6 0 8) ∧ (A6 0 8) ≤ 5 := hI 0 8
    exact J17_5 _ _ _ _ hI (fr.trans (fr.rf) hf8 rfl rfl) hP hS (lv_sub hl [0, 1] rfl)

def ws_mc_X12_must_ : List Cond := .code yX12_must_ cX12_must_ 3 none :: ([.fieldLink RX12 36 "StackKeysModel" "faultKind" "I", .methodLink RX12 368 yX12_isWord, .instanceMethod yX12_isWord, .selects RX12 yX12_isWord yX12_isWord, .initialized RX12, .code yX12_isWord cX12_isWord 3 (some .boolean), .fieldLink RX12 20 "StackKeysModel" "sign" "I", .fieldLink RX12 32 "StackKeysModel" "word" "J", .fieldLink RX12 23 "StackKeysModel" "signAt" "I", .methodLink RX12 286 yX12_blame, .instanceMethod yX12_blame, .selects RX12 yX12_blame yX12_blame, .code yX12_blame cX12_blame 3 none, .fieldLink RX12 39 "StackKeysModel" "faultPlace" "I", .methodLink RX12 293 yX12_ahead, .instanceMethod yX12_ahead, .selects RX12 yX12_ahead yX12_ahead, .code yX12_ahead cX12_ahead 6 none, .fieldLink RX12 26 "StackKeysModel" "signEnd" "I", .fieldLink RX12 17 "StackKeysModel" "size" "I", .fieldLink RX12 7 "StackKeysModel" "tape" "[I", .methodLink RX12 279 yX12_isLetter, .static yX12_isLetter, .code yX12_isLetter cX12_isLetter 1 (some .boolean), .methodLink RX12 283 yX12_isDigit, .static yX12_isDigit, .code yX12_isDigit cX12_isDigit 1 (some .boolean), .fieldLink RX12 29 "StackKeysModel" "value" "I"] ++ wsX120)
set_option maxRecDepth 20000 in
theorem g_mc_X12_must__0 : GoodIn ws_mc_X12_must_ (wsV RX12 368 RX12 yX12_isWord ws_mc_X12_isWord) := goodIn_r _ [2, 3, 4, 5, 6, 7, 8, 29, 30, 31, 32, 33, 34, 35, 36, 37, 38, 39, 40, 41, 42, 43, 44, 45, 46, 47, 48, 49, 50, 51, 52, 53, 54, 55, 56, 57, 58, 59, 60, 61, 62, 63, 64, 65, 66, 67, 68, 69, 70, 71, 72, 73, 74, 75, 76, 77, 78, 79, 80, 81, 82, 83, 84, 85, 86, 87, 88, 89, 90, 91, 92, 93, 94, 95, 96, 97, 98, 99, 100, 101, 102, 103, 104, 105, 106, 107, 108, 109, 110, 111, 112, 113] (by decide +kernel) (by decide +kernel)
set_option maxRecDepth 20000 in
theorem g_mc_X12_must__1 : GoodIn ws_mc_X12_must_ (wsV RX12 286 RX12 yX12_blame ws_mc_X12_blame) := goodIn_r _ [10, 11, 12, 5, 13, 1, 14, 29, 30, 31, 32, 33, 34, 35, 36, 37, 38, 39, 40, 41, 42, 43, 44, 45, 46, 47, 48, 49, 50, 51, 52, 53, 54, 55, 56, 57, 58, 59, 60, 61, 62, 63, 64, 65, 66, 67, 68, 69, 70, 71, 72, 73, 74, 75, 76, 77, 78, 79, 80, 81, 82, 83, 84, 85, 86, 87, 88, 89, 90, 91, 92, 93, 94, 95, 96, 97, 98, 99, 100, 101, 102, 103, 104, 105, 106, 107, 108, 109, 110, 111, 112, 113] (by decide +kernel) (by decide +kernel)
set_option maxRecDepth 20000 in
theorem g_mc_X12_must__2 : GoodIn ws_mc_X12_must_ (wsV RX12 293 RX12 yX12_ahead ws_mc_X12_ahead) := goodIn_r _ [15, 16, 17, 5, 18, 19, 20, 21, 9, 7, 22, 23, 5, 24, 25, 26, 27, 10, 11, 12, 13, 1, 14, 28, 8, 29, 30, 31, 32, 33, 34, 35, 36, 37, 38, 39, 40, 41, 42, 43, 44, 45, 46, 47, 48, 49, 50, 51, 52, 53, 54, 55, 56, 57, 58, 59, 60, 61, 62, 63, 64, 65, 66, 67, 68, 69, 70, 71, 72, 73, 74, 75, 76, 77, 78, 79, 80, 81, 82, 83, 84, 85, 86, 87, 88, 89, 90, 91, 92, 93, 94, 95, 96, 97, 98, 99, 100, 101, 102, 103, 104, 105, 106, 107, 108, 109, 110, 111, 112, 113] (by decide +kernel) (by decide +kernel)
set_option maxHeartbeats 4000000 in
set_option maxRecDepth 100000 in
theorem mc_X12_must_ (l : Launch) (dC : Nat → ClassId) (dI : Nat → Nat → Nat) (cB cI cJ cZ cQ : ClassId) (q : Nat → Nat) (A : St) (x1 : Int) (hI : IM A) (hx1 : (-9223372036854775808 : Int) ≤ x1 ∧ x1 ≤ 9223372036854775807) : XMv l yX12_must_ ws_mc_X12_must_ ({ frames := 2, cells := 0, slots := 0, locals := 47 } : Room) (dC, dI) (tyA cB cI cJ cZ cQ) (WM cI cJ cZ q) A [.ref (q 0), .long (jI x1)] (fun u => IM u ∧ fr [] [3, 4, 5, 6, 7, 8, 9] A u ∧ (True)) := by
  refine x_metv (cc := cX12_must_) (maxL := 3) WM_adr (by decide +kernel) rfl (Nat.le_of_ble_eq_true rfl) (fun p e s m below meth c Q AS ls hx hb hml hown hts hK hDD hA0 hP hS hl RET => ?_)
  have hown : s.vm.findClass RX12 = some m.cls := hown
  have hl : lv_has ls 3 [(0, .ref (q 0)), (1, .long (jI x1))] := hl
  have hiX12 : ∀ w ∈ u_ws RX12 TX12 85, w ∈ ws_mc_X12_must_ := fun w h => List.mem_cons_of_mem _ (List.mem_append_right _ h)
  obtain ⟨H, hHe⟩ : ∃ H : Heap, H = s.heap := ⟨_, rfl⟩
  rw [← hHe] at hP
  have hS : va_S AS s.heap H [] := by rw [hHe]; exact hS
  suffices hgo : ∀ locs : List Loc, va_S AS s.heap H locs → W p l e (headSpec ws_mc_X12_must_ ({ frames := 2, cells := 0, slots := 0, locals := 47 } : Room)).room s m [.ref (q 0), .long (jI x1)].toArray below meth c H locs 0 0 Q (F0 m 0 ls []) by
    have := hgo [] hS
    rw [hHe] at this
    exact this
  clear hS hHe
  intro locs hS
  refine lv_aload_n hx hb dX12_must__0 rfl (lv_at hl 0 rfl) ?_
  refine va_get (D := (dC, dI)) (ci := 12) (v := .int (iI (A 0 8))) (C := RX12) (T := TX12) (N := 85) hx hb hts hiX12 hown hK hP 0 wm0 rfl 8 (by decide) (hts _ (List.mem_of_getElem? (i := 1) rfl)) (fun _ h9 => h9) rfl dX12_must__1 ?_
  have r_A_0_8 : (0 : Int) ≤ (A 0 8) ∧ (A 0 8) ≤ 5 := hI 0 8
  refine lv_if_le (tgt := 8) hx hb dX12_must__4 (by decide) (fun c1 => ?_) (fun c1 => ?_)
  · have c1 : (A 0 8) ≤ 0 := (i_le0 ⟨by omega, by omega⟩).mp c1
    refine lv_aload_n hx hb dX12_must__8 rfl (lv_at hl 0 rfl) ?_
    refine lv_lload_n hx hb dX12_must__9 rfl (lv_at hl 1 rfl) ?_
    refine x_calli (As := [.long (jI x1)]) (rest := []) ⟨hx, hb, hml, hown, hts⟩ (mc_X12_isWord l dC dI cB cI cJ cZ cQ q _ x1 hI ⟨by omega, by omega⟩) (cwV 1 hts g_mc_X12_must__0 rfl rfl rfl (by decide +kernel) ⟨Nat.le_of_ble_eq_true rfl, Nat.le_of_ble_eq_true rfl⟩) hK hDD hA0 hP hS 0 12 wm0 rfl rfl hl.1 (Nat.le_of_ble_eq_true rfl) dX12_must__10 (fun z2 A3 H locs hw4 hP hS => ?_)
    obtain ⟨rfl, hw4⟩ := hw4
    have J25_6 : ∀ (A11 : St) (H : Heap) (locs : List Loc) (ls : Array Slot), IM A11 → fr [] [8, 9] A A11 → va_P (dC, dI) vwCl (WM cI cJ cZ q A11) H → va_S AS s.heap H locs → lv_has ls 3 [(0, .ref (q 0)), (1, .long (jI x1))] → W p l e (headSpec ws_mc_X12_must_ ({ frames := 2, cells := 0, slots := 0, locals := 47 } : Room)).room s m [.ref (q 0), .long (jI x1)].toArray below meth c H locs 0 0 Q (F0 m 25 ls []) := by
      intro A11 H locs ls hI hj10 hP hS hl
      refine lv_aload_n hx hb dX12_must__25 rfl (lv_at hl 0 rfl) ?_
      refine va_get (D := (dC, dI)) (ci := 12) (v := .int (iI (A11 0 8))) (C := RX12) (T := TX12) (N := 85) hx hb hts hiX12 hown hK hP 0 wm0 rfl 8 (by decide) (hts _ (List.mem_of_getElem? (i := 1) rfl)) (fun _ h9 => h9) rfl dX12_must__26 ?_
      have r_A11_0_8 : (0 : Int) ≤ (A11 0 8) ∧ (A11 0 8) ≤ 5 := hI 0 8
      refine lv_if_ne (tgt := 36) hx hb dX12_must__29 (by decide) (fun c12 => ?_) (fun c12 => ?_)
      · have c12 : ¬ (A11 0 8) = 0 := mt (i_eq0 ⟨by omega, by omega⟩).mpr c12
        exact RET _ _ _ _ _ ⟨hI, fr.trans (fr.rf) hj10 rfl rfl, trivial⟩ hP hS dX12_must__36
      · have c12 : (A11 0 8) = 0 := (i_eq0 ⟨by omega, by omega⟩).mp c12
        refine lv_aload_n hx hb dX12_must__32 rfl (lv_at hl 0 rfl) ?_
        refine x_callv (As := []) (rest := []) ⟨hx, hb, hml, hown, hts⟩ (mc_X12_ahead l dC dI cB cI cJ cZ cQ q _ hI) (cwV 0 hts g_mc_X12_must__2 rfl rfl rfl (by decide +kernel) ⟨Nat.le_of_ble_eq_true rfl, Nat.le_of_ble_eq_true rfl⟩) hK hDD hA0 hP hS 0 12 wm0 rfl rfl hl.1 (Nat.le_of_ble_eq_true rfl) dX12_must__33 (fun A13 H locs hw14 hP hS => ?_)
        obtain ⟨hI, hf15, hw14⟩ := hw14
        clear hw14
        exact RET _ _ _ _ _ ⟨hI, fr.trans (fr.trans (fr.rf) hj10 rfl rfl) hf15 rfl rfl, trivial⟩ hP hS dX12_must__36
    refine lv_if_ne (tgt := 25) hx hb dX12_must__13 (by decide) (fun c5 => ?_) (fun c5 => ?_)
    · have c5 : ¬ z2 = 0 := mt (i_eq0 ⟨by omega, by omega⟩).mpr c5
      exact J25_6 _ _ _ _ hI (fr.rf) hP hS (lv_sub hl [0, 1] rfl)
    · have c5 : z2 = 0 := (i_eq0 ⟨by omega, by omega⟩).mp c5
      refine lv_aload_n hx hb dX12_must__16 rfl (lv_at hl 0 rfl) ?_
      refine lv_iconst (v := iI 1) hx hb dX12_must__17 (by decide +kernel) ?_
      refine lv_aload_n hx hb dX12_must__18 rfl (lv_at hl 0 rfl) ?_
      refine va_get (D := (dC, dI)) (ci := 12) (v := .int (iI (A 0 4))) (C := RX12) (T := TX12) (N := 85) hx hb hts hiX12 hown hK hP 0 wm0 rfl 4 (by decide) (hts _ (List.mem_of_getElem? (i := 9) rfl)) (fun _ h9 => h9) rfl dX12_must__19 ?_
      have r_A_0_4 : (0 : Int) ≤ (A 0 4) ∧ (A 0 4) ≤ 1600 := hI 0 4
      refine x_callv (As := [.int (iI 1), .int (iI (A 0 4))]) (rest := []) ⟨hx, hb, hml, hown, hts⟩ (mc_X12_blame l dC dI cB cI cJ cZ cQ q _ 1 (A 0 4) hI ⟨by omega, by omega⟩ ⟨by omega, by omega⟩) (cwV 2 hts g_mc_X12_must__1 rfl rfl rfl (by decide +kernel) ⟨Nat.le_of_ble_eq_true rfl, Nat.le_of_ble_eq_true rfl⟩) hK hDD hA0 hP hS 0 12 wm0 rfl rfl hl.1 (Nat.le_of_ble_eq_true rfl) dX12_must__22 (fun A7 H locs hw8 hP hS => ?_)
      obtain ⟨hI, hf9, hw8⟩ := hw8
      have r_A7_0_8 : (0 : Int) ≤ (A7 0 8) ∧ (A7 0 8) ≤ 5 := hI 0 8
      exact J25_6 _ _ _ _ hI (fr.trans (fr.rf) hf9 rfl rfl) hP hS (lv_sub hl [0, 1] rfl)
  · have c1 : ¬ (A 0 8) ≤ 0 := mt (i_le0 ⟨by omega, by omega⟩).mpr c1
    exact RET _ _ _ _ _ ⟨hI, fr.rf, trivial⟩ hP hS dX12_must__7

def ws_mc_X12_nameOf : List Cond := .code yX12_nameOf cX12_nameOf 4 (some .long) :: ([.fieldLink RX12 107 "StackKeysModel" "thingName" "[J", .fieldLink RX12 54 "StackKeysModel" "placeName" "[J", .fieldLink RX12 61 "StackKeysModel" "doorName" "[J", .fieldLink RX12 83 "StackKeysModel" "keyName" "[J", .fieldLink RX12 98 "StackKeysModel" "personName" "[J"] ++ wsX120)
set_option maxHeartbeats 4000000 in
set_option maxRecDepth 100000 in
theorem mc_X12_nameOf (l : Launch) (dC : Nat → ClassId) (dI : Nat → Nat → Nat) (cB cI cJ cZ cQ : ClassId) (q : Nat → Nat) (A : St) (x1 x2 x3 : Int) (hI : IM A) (hx1 : (0 : Int) ≤ x1 ∧ x1 ≤ 1) (hx2 : (0 : Int) ≤ x2 ∧ x2 ≤ 4) (hx3 : (0 : Int) ≤ x3 ∧ x3 ≤ 9) (hp0 : (x2 = 0 → x3 < 8) ∧ (x2 = 1 → x3 < 10) ∧ (x2 = 2 → x3 < 4) ∧ (x2 = 3 → x3 < 3) ∧ (x2 = 4 → x3 < 4)) : XMl l yX12_nameOf ws_mc_X12_nameOf ({ frames := 0, cells := 0, slots := 0, locals := 0 } : Room) (dC, dI) (tyA cB cI cJ cZ cQ) (WM cI cJ cZ q) A [.ref (q 0), .int (iI x1), .int (iI x2), .int (iI x3)] (fun z u => A = u ∧ (-9223372036854775808 ≤ z ∧ z ≤ 9223372036854775807)) := by
  refine x_metl (cc := cX12_nameOf) (maxL := 4) WM_adr (by decide +kernel) rfl (Nat.le_of_ble_eq_true rfl) (fun p e s m below meth c Q AS ls hx hb hml hown hts hK hDD hA0 hP hS hl RET => ?_)
  have hown : s.vm.findClass RX12 = some m.cls := hown
  have hl : lv_has ls 4 [(0, .ref (q 0)), (1, .int (iI x1)), (2, .int (iI x2)), (3, .int (iI x3))] := hl
  have hiX12 : ∀ w ∈ u_ws RX12 TX12 85, w ∈ ws_mc_X12_nameOf := fun w h => List.mem_cons_of_mem _ (List.mem_append_right _ h)
  obtain ⟨H, hHe⟩ : ∃ H : Heap, H = s.heap := ⟨_, rfl⟩
  rw [← hHe] at hP
  have hS : va_S AS s.heap H [] := by rw [hHe]; exact hS
  suffices hgo : ∀ locs : List Loc, va_S AS s.heap H locs → W p l e (headSpec ws_mc_X12_nameOf ({ frames := 0, cells := 0, slots := 0, locals := 0 } : Room)).room s m [.ref (q 0), .int (iI x1), .int (iI x2), .int (iI x3)].toArray below meth c H locs 0 0 Q (F0 m 0 ls []) by
    have := hgo [] hS
    rw [hHe] at this
    exact this
  clear hS hHe
  intro locs hS
  refine lv_iload_n hx hb dX12_nameOf_0 rfl (lv_at hl 2 rfl) ?_
  rcases (show (x2 < 0 ∨ 3 < x2) ∨ x2 = 0 ∨ x2 = 1 ∨ x2 = 2 ∨ x2 = 3 by omega) with c1 | c1 | c1 | c1 | c1
  · refine lv_tableOut (tgt := 78) hx hb dX12_nameOf_1 (by rw [iI_toInt ⟨by omega, by omega⟩]; exact c1) (by decide) ?_
    refine lv_aload_n hx hb dX12_nameOf_78 rfl (lv_at hl 0 rfl) ?_
    refine va_get (D := (dC, dI)) (ci := 12) (v := .ref (q 20)) (C := RX12) (T := TX12) (N := 85) hx hb hts hiX12 hown hK hP 0 wm0 rfl 31 (by decide) (hts _ (List.mem_of_getElem? (i := 1) rfl)) (fun _ h9 => h9) rfl dX12_nameOf_79 ?_
    refine lv_iconst (v := iI 4) hx hb dX12_nameOf_82 (by decide +kernel) ?_
    refine lv_iload_n hx hb dX12_nameOf_83 rfl (lv_at hl 1 rfl) ?_
    refine x_mulv (v := 4 * x1) hx hb dX12_nameOf_84 (by omega) ?_
    refine lv_iload_n hx hb dX12_nameOf_85 rfl (lv_at hl 3 rfl) ?_
    refine x_addv (v := 4 * x1 + x3) hx hb dX12_nameOf_86 (by omega) ?_
    refine x_lald hx hb hK hP 20 2 wm20 rfl ⟨by omega, by omega⟩ (by decide) dX12_nameOf_87 (fun z2 hz2 => ?_)
    have rz2 : (-9223372036854775808 : Int) ≤ z2 ∧ z2 ≤ 9223372036854775807 := by rw [hz2]; exact hI 20 _
    have hz2 : z2 = A 20 (4 * x1 + x3).toNat := hz2
    exact RET z2 _ _ _ _ _ ⟨rfl, by omega⟩ hP hS dX12_nameOf_88
  · refine tp_i (y := iI 0) (congrArg iI c1) ?_
    refine lv_tableIn (off := 31) (tgt := 32) hx hb dX12_nameOf_1 (by decide +kernel) (by decide +kernel) (by decide +kernel) (by decide) ?_
    refine lv_aload_n hx hb dX12_nameOf_32 rfl (lv_at hl 0 rfl) ?_
    refine va_get (D := (dC, dI)) (ci := 12) (v := .ref (q 3)) (C := RX12) (T := TX12) (N := 85) hx hb hts hiX12 hown hK hP 0 wm0 rfl 14 (by decide) (hts _ (List.mem_of_getElem? (i := 2) rfl)) (fun _ h9 => h9) rfl dX12_nameOf_33 ?_
    refine lv_bipush (v := iI 8) hx hb dX12_nameOf_36 (by decide +kernel) ?_
    refine lv_iload_n hx hb dX12_nameOf_38 rfl (lv_at hl 1 rfl) ?_
    refine x_mulv (v := 8 * x1) hx hb dX12_nameOf_39 (by omega) ?_
    refine lv_iload_n hx hb dX12_nameOf_40 rfl (lv_at hl 3 rfl) ?_
    refine x_addv (v := 8 * x1 + x3) hx hb dX12_nameOf_41 (by omega) ?_
    refine x_lald hx hb hK hP 3 2 wm3 rfl ⟨by omega, by omega⟩ (by decide) dX12_nameOf_42 (fun z3 hz3 => ?_)
    have rz3 : (-9223372036854775808 : Int) ≤ z3 ∧ z3 ≤ 9223372036854775807 := by rw [hz3]; exact hI 3 _
    have hz3 : z3 = A 3 (8 * x1 + x3).toNat := hz3
    exact RET z3 _ _ _ _ _ ⟨rfl, by omega⟩ hP hS dX12_nameOf_43
  · refine tp_i (y := iI 1) (congrArg iI c1) ?_
    refine lv_tableIn (off := 43) (tgt := 44) hx hb dX12_nameOf_1 (by decide +kernel) (by decide +kernel) (by decide +kernel) (by decide) ?_
    refine lv_aload_n hx hb dX12_nameOf_44 rfl (lv_at hl 0 rfl) ?_
    refine va_get (D := (dC, dI)) (ci := 12) (v := .ref (q 5)) (C := RX12) (T := TX12) (N := 85) hx hb hts hiX12 hown hK hP 0 wm0 rfl 16 (by decide) (hts _ (List.mem_of_getElem? (i := 3) rfl)) (fun _ h9 => h9) rfl dX12_nameOf_45 ?_
    refine lv_bipush (v := iI 10) hx hb dX12_nameOf_48 (by decide +kernel) ?_
    refine lv_iload_n hx hb dX12_nameOf_50 rfl (lv_at hl 1 rfl) ?_
    refine x_mulv (v := 10 * x1) hx hb dX12_nameOf_51 (by omega) ?_
    refine lv_iload_n hx hb dX12_nameOf_52 rfl (lv_at hl 3 rfl) ?_
    refine x_addv (v := 10 * x1 + x3) hx hb dX12_nameOf_53 (by omega) ?_
    refine x_lald hx hb hK hP 5 2 wm5 rfl ⟨by omega, by omega⟩ (by decide) dX12_nameOf_54 (fun z4 hz4 => ?_)
    have rz4 : (-9223372036854775808 : Int) ≤ z4 ∧ z4 ≤ 9223372036854775807 := by rw [hz4]; exact hI 5 _
    have hz4 : z4 = A 5 (10 * x1 + x3).toNat := hz4
    exact RET z4 _ _ _ _ _ ⟨rfl, by omega⟩ hP hS dX12_nameOf_55
  · refine tp_i (y := iI 2) (congrArg iI c1) ?_
    refine lv_tableIn (off := 55) (tgt := 56) hx hb dX12_nameOf_1 (by decide +kernel) (by decide +kernel) (by decide +kernel) (by decide) ?_
    refine lv_aload_n hx hb dX12_nameOf_56 rfl (lv_at hl 0 rfl) ?_
    refine va_get (D := (dC, dI)) (ci := 12) (v := .ref (q 12)) (C := RX12) (T := TX12) (N := 85) hx hb hts hiX12 hown hK hP 0 wm0 rfl 23 (by decide) (hts _ (List.mem_of_getElem? (i := 4) rfl)) (fun _ h9 => h9) rfl dX12_nameOf_57 ?_
    refine lv_iconst (v := iI 4) hx hb dX12_nameOf_60 (by decide +kernel) ?_
    refine lv_iload_n hx hb dX12_nameOf_61 rfl (lv_at hl 1 rfl) ?_
    refine x_mulv (v := 4 * x1) hx hb dX12_nameOf_62 (by omega) ?_
    refine lv_iload_n hx hb dX12_nameOf_63 rfl (lv_at hl 3 rfl) ?_
    refine x_addv (v := 4 * x1 + x3) hx hb dX12_nameOf_64 (by omega) ?_
    refine x_lald hx hb hK hP 12 2 wm12 rfl ⟨by omega, by omega⟩ (by decide) dX12_nameOf_65 (fun z5 hz5 => ?_)
    have rz5 : (-9223372036854775808 : Int) ≤ z5 ∧ z5 ≤ 9223372036854775807 := by rw [hz5]; exact hI 12 _
    have hz5 : z5 = A 12 (4 * x1 + x3).toNat := hz5
    exact RET z5 _ _ _ _ _ ⟨rfl, by omega⟩ hP hS dX12_nameOf_66
  · refine tp_i (y := iI 3) (congrArg iI c1) ?_
    refine lv_tableIn (off := 66) (tgt := 67) hx hb dX12_nameOf_1 (by decide +kernel) (by decide +kernel) (by decide +kernel) (by decide) ?_
    refine lv_aload_n hx hb dX12_nameOf_67 rfl (lv_at hl 0 rfl) ?_
    refine va_get (D := (dC, dI)) (ci := 12) (v := .ref (q 17)) (C := RX12) (T := TX12) (N := 85) hx hb hts hiX12 hown hK hP 0 wm0 rfl 28 (by decide) (hts _ (List.mem_of_getElem? (i := 5) rfl)) (fun _ h9 => h9) rfl dX12_nameOf_68 ?_
    refine lv_iconst (v := iI 3) hx hb dX12_nameOf_71 (by decide +kernel) ?_
    refine lv_iload_n hx hb dX12_nameOf_72 rfl (lv_at hl 1 rfl) ?_
    refine x_mulv (v := 3 * x1) hx hb dX12_nameOf_73 (by omega) ?_
    refine lv_iload_n hx hb dX12_nameOf_74 rfl (lv_at hl 3 rfl) ?_
    refine x_addv (v := 3 * x1 + x3) hx hb dX12_nameOf_75 (by omega) ?_
    refine x_lald hx hb hK hP 17 2 wm17 rfl ⟨by omega, by omega⟩ (by decide) dX12_nameOf_76 (fun z6 hz6 => ?_)
    have rz6 : (-9223372036854775808 : Int) ≤ z6 ∧ z6 ≤ 9223372036854775807 := by rw [hz6]; exact hI 17 _
    have hz6 : z6 = A 17 (3 * x1 + x3).toNat := hz6
    exact RET z6 _ _ _ _ _ ⟨rfl, by omega⟩ hP hS dX12_nameOf_77

def ws_mc_X12_named : List Cond := .code yX12_named cX12_named 6 (some .int) :: ([.fieldLink RX12 104 "StackKeysModel" "things" "[I", .fieldLink RX12 155 "StackKeysModel" "in" "I", .fieldLink RX12 95 "StackKeysModel" "persons" "[I", .fieldLink RX12 80 "StackKeysModel" "keys" "[I", .fieldLink RX12 58 "StackKeysModel" "doors" "[I", .fieldLink RX12 51 "StackKeysModel" "places" "[I", .methodLink RX12 348 yX12_nameOf, .instanceMethod yX12_nameOf, .selects RX12 yX12_nameOf yX12_nameOf, .initialized RX12, .code yX12_nameOf cX12_nameOf 4 (some .long), .fieldLink RX12 107 "StackKeysModel" "thingName" "[J", .fieldLink RX12 54 "StackKeysModel" "placeName" "[J", .fieldLink RX12 61 "StackKeysModel" "doorName" "[J", .fieldLink RX12 83 "StackKeysModel" "keyName" "[J", .fieldLink RX12 98 "StackKeysModel" "personName" "[J"] ++ wsX120)
set_option maxRecDepth 20000 in
theorem g_mc_X12_named_0 : GoodIn ws_mc_X12_named (wsV RX12 348 RX12 yX12_nameOf ws_mc_X12_nameOf) := goodIn_r _ [7, 8, 9, 10, 11, 12, 13, 14, 15, 16, 17, 18, 19, 20, 21, 22, 23, 24, 25, 26, 27, 28, 29, 30, 31, 32, 33, 34, 35, 36, 37, 38, 39, 40, 41, 42, 43, 44, 45, 46, 47, 48, 49, 50, 51, 52, 53, 54, 55, 56, 57, 58, 59, 60, 61, 62, 63, 64, 65, 66, 67, 68, 69, 70, 71, 72, 73, 74, 75, 76, 77, 78, 79, 80, 81, 82, 83, 84, 85, 86, 87, 88, 89, 90, 91, 92, 93, 94, 95, 96, 97, 98, 99, 100, 101] (by decide +kernel) (by decide +kernel)
set_option maxHeartbeats 4000000 in
set_option maxRecDepth 100000 in
theorem mc_X12_named (l : Launch) (dC : Nat → ClassId) (dI : Nat → Nat → Nat) (cB cI cJ cZ cQ : ClassId) (q : Nat → Nat) (A : St) (x1 x2 : Int) (hI : IM A) (hx1 : (0 : Int) ≤ x1 ∧ x1 ≤ 4) (hx2 : (-9223372036854775808 : Int) ≤ x2 ∧ x2 ≤ 9223372036854775807) : XMi l yX12_named ws_mc_X12_named ({ frames := 1, cells := 0, slots := 0, locals := 23 } : Room) (dC, dI) (tyA cB cI cJ cZ cQ) (WM cI cJ cZ q) A [.ref (q 0), .int (iI x1), .long (jI x2)] (fun z u => A = u ∧ (-1 ≤ z ∧ z ≤ 9 ∧ (x1 = 0 → z ≤ 7) ∧ (x1 = 2 → z ≤ 3) ∧ (x1 = 3 → z ≤ 2) ∧ (x1 = 4 → z ≤ 3))) := by
  refine x_meti (cc := cX12_named) (maxL := 6) WM_adr (by decide +kernel) rfl (Nat.le_of_ble_eq_true rfl) (fun p e s m below meth c Q AS ls hx hb hml hown hts hK hDD hA0 hP hS hl RET => ?_)
  have hown : s.vm.findClass RX12 = some m.cls := hown
  have hl : lv_has ls 6 [(0, .ref (q 0)), (1, .int (iI x1)), (2, .long (jI x2))] := hl
  have hiX12 : ∀ w ∈ u_ws RX12 TX12 85, w ∈ ws_mc_X12_named := fun w h => List.mem_cons_of_mem _ (List.mem_append_right _ h)
  obtain ⟨H, hHe⟩ : ∃ H : Heap, H = s.heap := ⟨_, rfl⟩
  rw [← hHe] at hP
  have hS : va_S AS s.heap H [] := by rw [hHe]; exact hS
  suffices hgo : ∀ locs : List Loc, va_S AS s.heap H locs → W p l e (headSpec ws_mc_X12_named ({ frames := 1, cells := 0, slots := 0, locals := 23 } : Room)).room s m [.ref (q 0), .int (iI x1), .long (jI x2)].toArray below meth c H locs 0 0 Q (F0 m 0 ls []) by
    have := hgo [] hS
    rw [hHe] at this
    exact this
  clear hS hHe
  intro locs hS
  refine lv_iload_n hx hb dX12_named_0 rfl (lv_at hl 1 rfl) ?_
  have J76_2 : ∀ (z11 : Int) (H : Heap) (locs : List Loc) (ls : Array Slot), (0 ≤ z11 ∧ z11 ≤ 10) → ((0 ≤ z11 ∧ z11 ≤ 4 ∧ ¬ x1 = 0 ∧ ¬ x1 = 1 ∧ ¬ x1 = 2 ∧ ¬ x1 = 3) ∨ (0 ≤ z11 ∧ z11 ≤ 3 ∧ ¬ x1 = 0 ∧ ¬ x1 = 1 ∧ ¬ x1 = 2 ∧ x1 = 3) ∨ (0 ≤ z11 ∧ z11 ≤ 4 ∧ ¬ x1 = 0 ∧ ¬ x1 = 1 ∧ x1 = 2) ∨ (0 ≤ z11 ∧ z11 ≤ 10 ∧ ¬ x1 = 0 ∧ x1 = 1) ∨ (0 ≤ z11 ∧ z11 ≤ 8 ∧ x1 = 0)) → va_P (dC, dI) vwCl (WM cI cJ cZ q A) H → va_S AS s.heap H locs → lv_has ls 6 [(0, .ref (q 0)), (1, .int (iI x1)), (2, .long (jI x2))] → W p l e (headSpec ws_mc_X12_named ({ frames := 1, cells := 0, slots := 0, locals := 23 } : Room)).room s m [.ref (q 0), .int (iI x1), .long (jI x2)].toArray below meth c H locs 0 0 Q (F0 m 76 ls [.int (iI z11)]) := by
    intro z11 H locs ls f13 f14 hP hS hl
    refine lv_istore (lv' := [(4, .int (iI z11)), (0, .ref (q 0)), (1, .int (iI x1)), (2, .long (jI x2))]) hx hb dX12_named_76 hl (by decide) rfl (fun ls hl => ?_)
    refine lv_iconst (v := iI 0) hx hb dX12_named_78 (by decide +kernel) ?_
    refine lv_istore (lv' := [(5, .int (iI 0)), (4, .int (iI z11)), (0, .ref (q 0)), (1, .int (iI x1)), (2, .long (jI x2))]) hx hb dX12_named_79 hl (by decide) rfl (fun ls hl => ?_)
    have L81_17 : ∀ (n19 : Nat) (z15 : Int) (H : Heap) (locs : List Loc) (ls : Array Slot), (0 ≤ z15) → (0 ≤ z15 ∧ z15 ≤ 2147483647) → ((z11 - z15 + 1).toNat = n19) → va_P (dC, dI) vwCl (WM cI cJ cZ q A) H → va_S AS s.heap H locs → lv_has ls 6 [(5, .int (iI z15)), (4, .int (iI z11)), (0, .ref (q 0)), (1, .int (iI x1)), (2, .long (jI x2))] → W p l e (headSpec ws_mc_X12_named ({ frames := 1, cells := 0, slots := 0, locals := 23 } : Room)).room s m [.ref (q 0), .int (iI x1), .long (jI x2)].toArray below meth c H locs 0 0 Q (F0 m 81 ls []) := by
      intro n19
      induction n19 using Nat.strongRecOn with
      | ind n19 ih18 =>
        intro z15 H locs ls f20 f21 hn19 hP hS hl
        refine lv_iload hx hb dX12_named_81 (lv_at hl 0 rfl) ?_
        refine lv_iload hx hb dX12_named_83 (lv_at hl 1 rfl) ?_
        refine lv_icmp_ge (tgt := 113) hx hb dX12_named_85 (by decide) (fun c22 => ?_) (fun c22 => ?_)
        · have c22 : z11 ≤ z15 := (i_le ⟨by omega, by omega⟩ ⟨by omega, by omega⟩).mp c22
          refine lv_iconst (v := iI (-1)) hx hb dX12_named_113 (by decide +kernel) ?_
          exact RET (-1) _ _ _ _ _ ⟨rfl, by omega⟩ hP hS dX12_named_114
        · have c22 : ¬ z11 ≤ z15 := mt (i_le ⟨by omega, by omega⟩ ⟨by omega, by omega⟩).mpr c22
          refine lv_aload_n hx hb dX12_named_88 rfl (lv_at hl 2 rfl) ?_
          refine lv_aload_n hx hb dX12_named_89 rfl (lv_at hl 2 rfl) ?_
          refine va_get (D := (dC, dI)) (ci := 12) (v := .int (iI (A 0 47))) (C := RX12) (T := TX12) (N := 85) hx hb hts hiX12 hown hK hP 0 wm0 rfl 47 (by decide) (hts _ (List.mem_of_getElem? (i := 2) rfl)) (fun _ h9 => h9) rfl dX12_named_90 ?_
          have r_A_0_47 : (0 : Int) ≤ (A 0 47) ∧ (A 0 47) ≤ 1 := hI 0 47
          refine lv_iload_n hx hb dX12_named_93 rfl (lv_at hl 3 rfl) ?_
          refine lv_iload hx hb dX12_named_94 (lv_at hl 0 rfl) ?_
          refine x_calll (As := [.int (iI (A 0 47)), .int (iI x1), .int (iI z15)]) (rest := []) ⟨hx, hb, hml, hown, hts⟩ (mc_X12_nameOf l dC dI cB cI cJ cZ cQ q _ (A 0 47) x1 z15 hI ⟨by omega, by omega⟩ ⟨by omega, by omega⟩ ⟨by omega, by omega⟩ (by omega)) (cwV 3 hts g_mc_X12_named_0 rfl rfl rfl (by decide +kernel) ⟨Nat.le_of_ble_eq_true rfl, Nat.le_of_ble_eq_true rfl⟩) hK hDD hA0 hP hS 0 12 wm0 rfl rfl hl.1 (Nat.le_of_ble_eq_true rfl) dX12_named_96 (fun z23 A24 H locs hw25 hP hS => ?_)
          obtain ⟨rfl, hw25⟩ := hw25
          refine lv_lload_n hx hb dX12_named_99 rfl (lv_at hl 4 rfl) ?_
          refine x_lcmp hx hb dX12_named_100 ⟨by omega, by omega⟩ ⟨by omega, by omega⟩ (fun z26 hz26 hz26b hz26c => ?_)
          refine lv_if_ne (tgt := 107) hx hb dX12_named_101 (by decide) (fun c27 => ?_) (fun c27 => ?_)
          · have c27 : ¬ z26 = 0 := mt (i_eq0 ⟨by omega, by omega⟩).mpr c27
            refine lv_iinc (v := iI (z15 + 1)) (lv' := [(5, .int (iI (z15 + 1))), (4, .int (iI z11)), (0, .ref (q 0)), (1, .int (iI x1)), (2, .long (jI x2))]) hx hb dX12_named_107 hl (k := 0) rfl (i_inc (by omega)) (by decide) rfl (fun ls hl => ?_)
            refine lv_goto (tgt := 81) hx hb dX12_named_110 (by decide) ?_
            exact ih18 _ (by omega) (z15 + 1) _ _ _ (by omega) (by omega) rfl hP hS (lv_sub hl [0, 1, 2, 3, 4] rfl)
          · have c27 : z26 = 0 := (i_eq0 ⟨by omega, by omega⟩).mp c27
            refine lv_iload hx hb dX12_named_104 (lv_at hl 0 rfl) ?_
            exact RET z15 _ _ _ _ _ ⟨rfl, by omega⟩ hP hS dX12_named_106
    exact L81_17 _ 0 _ _ _ (by omega) (by omega) rfl hP hS (lv_sub hl [0, 1, 2, 3, 4] rfl)
  refine lv_if_ne (tgt := 16) hx hb dX12_named_1 (by decide) (fun c1 => ?_) (fun c1 => ?_)
  · have c1 : ¬ x1 = 0 := mt (i_eq0 ⟨by omega, by omega⟩).mpr c1
    refine lv_iload_n hx hb dX12_named_16 rfl (lv_at hl 1 rfl) ?_
    refine lv_iconst (v := iI 1) hx hb dX12_named_17 (by decide +kernel) ?_
    refine lv_icmp_ne (tgt := 33) hx hb dX12_named_18 (by decide) (fun c3 => ?_) (fun c3 => ?_)
    · have c3 : ¬ x1 = 1 := mt (i_eq ⟨by omega, by omega⟩ ⟨by decide, by decide⟩).mpr c3
      refine lv_iload_n hx hb dX12_named_33 rfl (lv_at hl 1 rfl) ?_
      refine lv_iconst (v := iI 2) hx hb dX12_named_34 (by decide +kernel) ?_
      refine lv_icmp_ne (tgt := 50) hx hb dX12_named_35 (by decide) (fun c4 => ?_) (fun c4 => ?_)
      · have c4 : ¬ x1 = 2 := mt (i_eq ⟨by omega, by omega⟩ ⟨by decide, by decide⟩).mpr c4
        refine lv_iload_n hx hb dX12_named_50 rfl (lv_at hl 1 rfl) ?_
        refine lv_iconst (v := iI 3) hx hb dX12_named_51 (by decide +kernel) ?_
        refine lv_icmp_ne (tgt := 67) hx hb dX12_named_52 (by decide) (fun c5 => ?_) (fun c5 => ?_)
        · have c5 : ¬ x1 = 3 := mt (i_eq ⟨by omega, by omega⟩ ⟨by decide, by decide⟩).mpr c5
          refine lv_aload_n hx hb dX12_named_67 rfl (lv_at hl 0 rfl) ?_
          refine va_get (D := (dC, dI)) (ci := 12) (v := .ref (q 19)) (C := RX12) (T := TX12) (N := 85) hx hb hts hiX12 hown hK hP 0 wm0 rfl 30 (by decide) (hts _ (List.mem_of_getElem? (i := 1) rfl)) (fun _ h9 => h9) rfl dX12_named_68 ?_
          refine lv_aload_n hx hb dX12_named_71 rfl (lv_at hl 0 rfl) ?_
          refine va_get (D := (dC, dI)) (ci := 12) (v := .int (iI (A 0 47))) (C := RX12) (T := TX12) (N := 85) hx hb hts hiX12 hown hK hP 0 wm0 rfl 47 (by decide) (hts _ (List.mem_of_getElem? (i := 2) rfl)) (fun _ h9 => h9) rfl dX12_named_72 ?_
          have r_A_0_47 : (0 : Int) ≤ (A 0 47) ∧ (A 0 47) ≤ 1 := hI 0 47
          refine x_iald hx hb hK hP 19 1 wm19 rfl ⟨by omega, by omega⟩ (by decide) dX12_named_75 (fun z6 hz6 => ?_)
          have rz6 : (0 : Int) ≤ z6 ∧ z6 ≤ 4 := by rw [hz6]; exact hI 19 _
          have hz6 : z6 = A 19 ((A 0 47)).toNat := hz6
          exact J76_2 z6 _ _ _ (by omega) (by omega) hP hS (lv_sub hl [0, 1, 2] rfl)
        · have c5 : x1 = 3 := (i_eq ⟨by omega, by omega⟩ ⟨by decide, by decide⟩).mp c5
          refine lv_aload_n hx hb dX12_named_55 rfl (lv_at hl 0 rfl) ?_
          refine va_get (D := (dC, dI)) (ci := 12) (v := .ref (q 16)) (C := RX12) (T := TX12) (N := 85) hx hb hts hiX12 hown hK hP 0 wm0 rfl 27 (by decide) (hts _ (List.mem_of_getElem? (i := 3) rfl)) (fun _ h9 => h9) rfl dX12_named_56 ?_
          refine lv_aload_n hx hb dX12_named_59 rfl (lv_at hl 0 rfl) ?_
          refine va_get (D := (dC, dI)) (ci := 12) (v := .int (iI (A 0 47))) (C := RX12) (T := TX12) (N := 85) hx hb hts hiX12 hown hK hP 0 wm0 rfl 47 (by decide) (hts _ (List.mem_of_getElem? (i := 2) rfl)) (fun _ h9 => h9) rfl dX12_named_60 ?_
          have r_A_0_47 : (0 : Int) ≤ (A 0 47) ∧ (A 0 47) ≤ 1 := hI 0 47
          refine x_iald hx hb hK hP 16 1 wm16 rfl ⟨by omega, by omega⟩ (by decide) dX12_named_63 (fun z7 hz7 => ?_)
          have rz7 : (0 : Int) ≤ z7 ∧ z7 ≤ 3 := by rw [hz7]; exact hI 16 _
          have hz7 : z7 = A 16 ((A 0 47)).toNat := hz7
          refine lv_goto (tgt := 76) hx hb dX12_named_64 (by decide) ?_
          exact J76_2 z7 _ _ _ (by omega) (by omega) hP hS (lv_sub hl [0, 1, 2] rfl)
      · have c4 : x1 = 2 := (i_eq ⟨by omega, by omega⟩ ⟨by decide, by decide⟩).mp c4
        refine lv_aload_n hx hb dX12_named_38 rfl (lv_at hl 0 rfl) ?_
        refine va_get (D := (dC, dI)) (ci := 12) (v := .ref (q 11)) (C := RX12) (T := TX12) (N := 85) hx hb hts hiX12 hown hK hP 0 wm0 rfl 22 (by decide) (hts _ (List.mem_of_getElem? (i := 4) rfl)) (fun _ h9 => h9) rfl dX12_named_39 ?_
        refine lv_aload_n hx hb dX12_named_42 rfl (lv_at hl 0 rfl) ?_
        refine va_get (D := (dC, dI)) (ci := 12) (v := .int (iI (A 0 47))) (C := RX12) (T := TX12) (N := 85) hx hb hts hiX12 hown hK hP 0 wm0 rfl 47 (by decide) (hts _ (List.mem_of_getElem? (i := 2) rfl)) (fun _ h9 => h9) rfl dX12_named_43 ?_
        have r_A_0_47 : (0 : Int) ≤ (A 0 47) ∧ (A 0 47) ≤ 1 := hI 0 47
        refine x_iald hx hb hK hP 11 1 wm11 rfl ⟨by omega, by omega⟩ (by decide) dX12_named_46 (fun z8 hz8 => ?_)
        have rz8 : (0 : Int) ≤ z8 ∧ z8 ≤ 4 := by rw [hz8]; exact hI 11 _
        have hz8 : z8 = A 11 ((A 0 47)).toNat := hz8
        refine lv_goto (tgt := 76) hx hb dX12_named_47 (by decide) ?_
        exact J76_2 z8 _ _ _ (by omega) (by omega) hP hS (lv_sub hl [0, 1, 2] rfl)
    · have c3 : x1 = 1 := (i_eq ⟨by omega, by omega⟩ ⟨by decide, by decide⟩).mp c3
      refine lv_aload_n hx hb dX12_named_21 rfl (lv_at hl 0 rfl) ?_
      refine va_get (D := (dC, dI)) (ci := 12) (v := .ref (q 4)) (C := RX12) (T := TX12) (N := 85) hx hb hts hiX12 hown hK hP 0 wm0 rfl 15 (by decide) (hts _ (List.mem_of_getElem? (i := 5) rfl)) (fun _ h9 => h9) rfl dX12_named_22 ?_
      refine lv_aload_n hx hb dX12_named_25 rfl (lv_at hl 0 rfl) ?_
      refine va_get (D := (dC, dI)) (ci := 12) (v := .int (iI (A 0 47))) (C := RX12) (T := TX12) (N := 85) hx hb hts hiX12 hown hK hP 0 wm0 rfl 47 (by decide) (hts _ (List.mem_of_getElem? (i := 2) rfl)) (fun _ h9 => h9) rfl dX12_named_26 ?_
      have r_A_0_47 : (0 : Int) ≤ (A 0 47) ∧ (A 0 47) ≤ 1 := hI 0 47
      refine x_iald hx hb hK hP 4 1 wm4 rfl ⟨by omega, by omega⟩ (by decide) dX12_named_29 (fun z9 hz9 => ?_)
      have rz9 : (0 : Int) ≤ z9 ∧ z9 ≤ 10 := by rw [hz9]; exact hI 4 _
      have hz9 : z9 = A 4 ((A 0 47)).toNat := hz9
      refine lv_goto (tgt := 76) hx hb dX12_named_30 (by decide) ?_
      exact J76_2 z9 _ _ _ (by omega) (by omega) hP hS (lv_sub hl [0, 1, 2] rfl)
  · have c1 : x1 = 0 := (i_eq0 ⟨by omega, by omega⟩).mp c1
    refine lv_aload_n hx hb dX12_named_4 rfl (lv_at hl 0 rfl) ?_
    refine va_get (D := (dC, dI)) (ci := 12) (v := .ref (q 2)) (C := RX12) (T := TX12) (N := 85) hx hb hts hiX12 hown hK hP 0 wm0 rfl 13 (by decide) (hts _ (List.mem_of_getElem? (i := 6) rfl)) (fun _ h9 => h9) rfl dX12_named_5 ?_
    refine lv_aload_n hx hb dX12_named_8 rfl (lv_at hl 0 rfl) ?_
    refine va_get (D := (dC, dI)) (ci := 12) (v := .int (iI (A 0 47))) (C := RX12) (T := TX12) (N := 85) hx hb hts hiX12 hown hK hP 0 wm0 rfl 47 (by decide) (hts _ (List.mem_of_getElem? (i := 2) rfl)) (fun _ h9 => h9) rfl dX12_named_9 ?_
    have r_A_0_47 : (0 : Int) ≤ (A 0 47) ∧ (A 0 47) ≤ 1 := hI 0 47
    refine x_iald hx hb hK hP 2 1 wm2 rfl ⟨by omega, by omega⟩ (by decide) dX12_named_12 (fun z10 hz10 => ?_)
    have rz10 : (0 : Int) ≤ z10 ∧ z10 ≤ 8 := by rw [hz10]; exact hI 2 _
    have hz10 : z10 = A 2 ((A 0 47)).toNat := hz10
    refine lv_goto (tgt := 76) hx hb dX12_named_13 (by decide) ?_
    exact J76_2 z10 _ _ _ (by omega) (by omega) hP hS (lv_sub hl [0, 1, 2] rfl)

def ws_mc_X12_number : List Cond := .code yX12_number cX12_number 4 (some .int) :: ([.fieldLink RX12 36 "StackKeysModel" "faultKind" "I", .fieldLink RX12 20 "StackKeysModel" "sign" "I", .fieldLink RX12 23 "StackKeysModel" "signAt" "I", .methodLink RX12 286 yX12_blame, .instanceMethod yX12_blame, .selects RX12 yX12_blame yX12_blame, .initialized RX12, .code yX12_blame cX12_blame 3 none, .fieldLink RX12 39 "StackKeysModel" "faultPlace" "I", .fieldLink RX12 29 "StackKeysModel" "value" "I", .methodLink RX12 352 yX12_is, .static yX12_is, .code yX12_is cX12_is 3 (some .boolean), .methodLink RX12 293 yX12_ahead, .instanceMethod yX12_ahead, .selects RX12 yX12_ahead yX12_ahead, .code yX12_ahead cX12_ahead 6 none, .fieldLink RX12 26 "StackKeysModel" "signEnd" "I", .fieldLink RX12 17 "StackKeysModel" "size" "I", .fieldLink RX12 7 "StackKeysModel" "tape" "[I", .methodLink RX12 279 yX12_isLetter, .static yX12_isLetter, .code yX12_isLetter cX12_isLetter 1 (some .boolean), .methodLink RX12 283 yX12_isDigit, .static yX12_isDigit, .code yX12_isDigit cX12_isDigit 1 (some .boolean), .fieldLink RX12 32 "StackKeysModel" "word" "J"] ++ wsX120)
set_option maxRecDepth 20000 in
theorem g_mc_X12_number_0 : GoodIn ws_mc_X12_number (wsV RX12 286 RX12 yX12_blame ws_mc_X12_blame) := goodIn_r _ [4, 5, 6, 7, 8, 1, 9, 28, 29, 30, 31, 32, 33, 34, 35, 36, 37, 38, 39, 40, 41, 42, 43, 44, 45, 46, 47, 48, 49, 50, 51, 52, 53, 54, 55, 56, 57, 58, 59, 60, 61, 62, 63, 64, 65, 66, 67, 68, 69, 70, 71, 72, 73, 74, 75, 76, 77, 78, 79, 80, 81, 82, 83, 84, 85, 86, 87, 88, 89, 90, 91, 92, 93, 94, 95, 96, 97, 98, 99, 100, 101, 102, 103, 104, 105, 106, 107, 108, 109, 110, 111, 112] (by decide +kernel) (by decide +kernel)
set_option maxRecDepth 20000 in
theorem g_mc_X12_number_1 : GoodIn ws_mc_X12_number (va_wsS RX12 352 yX12_is ws_mc_X12_is) := goodIn_r _ [11, 12, 7, 13] (by decide +kernel) (by decide +kernel)
set_option maxRecDepth 20000 in
theorem g_mc_X12_number_2 : GoodIn ws_mc_X12_number (wsV RX12 286 RX12 yX12_blame ws_mc_X12_blame) := goodIn_r _ [4, 5, 6, 7, 8, 1, 9, 28, 29, 30, 31, 32, 33, 34, 35, 36, 37, 38, 39, 40, 41, 42, 43, 44, 45, 46, 47, 48, 49, 50, 51, 52, 53, 54, 55, 56, 57, 58, 59, 60, 61, 62, 63, 64, 65, 66, 67, 68, 69, 70, 71, 72, 73, 74, 75, 76, 77, 78, 79, 80, 81, 82, 83, 84, 85, 86, 87, 88, 89, 90, 91, 92, 93, 94, 95, 96, 97, 98, 99, 100, 101, 102, 103, 104, 105, 106, 107, 108, 109, 110, 111, 112] (by decide +kernel) (by decide +kernel)
set_option maxRecDepth 20000 in
theorem g_mc_X12_number_3 : GoodIn ws_mc_X12_number (wsV RX12 293 RX12 yX12_ahead ws_mc_X12_ahead) := goodIn_r _ [14, 15, 16, 7, 17, 18, 19, 20, 3, 2, 21, 22, 7, 23, 24, 25, 26, 4, 5, 6, 8, 1, 9, 10, 27, 28, 29, 30, 31, 32, 33, 34, 35, 36, 37, 38, 39, 40, 41, 42, 43, 44, 45, 46, 47, 48, 49, 50, 51, 52, 53, 54, 55, 56, 57, 58, 59, 60, 61, 62, 63, 64, 65, 66, 67, 68, 69, 70, 71, 72, 73, 74, 75, 76, 77, 78, 79, 80, 81, 82, 83, 84, 85, 86, 87, 88, 89, 90, 91, 92, 93, 94, 95, 96, 97, 98, 99, 100, 101, 102, 103, 104, 105, 106, 107, 108, 109, 110, 111, 112] (by decide +kernel) (by decide +kernel)
set_option maxHeartbeats 4000000 in
set_option maxRecDepth 100000 in
theorem mc_X12_number (l : Launch) (dC : Nat → ClassId) (dI : Nat → Nat → Nat) (cB cI cJ cZ cQ : ClassId) (q : Nat → Nat) (A : St) (x1 x2 : Int) (hI : IM A) (hx1 : (-2147483648 : Int) ≤ x1 ∧ x1 ≤ 2147483647) (hx2 : (-2147483648 : Int) ≤ x2 ∧ x2 ≤ 2147483647) : XMi l yX12_number ws_mc_X12_number ({ frames := 2, cells := 0, slots := 0, locals := 47 } : Room) (dC, dI) (tyA cB cI cJ cZ cQ) (WM cI cJ cZ q) A [.ref (q 0), .int (iI x1), .int (iI x2)] (fun z u => IM u ∧ fr [] [3, 4, 5, 6, 7, 8, 9] A u ∧ (-2147483648 ≤ z ∧ z ≤ 2147483647)) := by
  refine x_meti (cc := cX12_number) (maxL := 4) WM_adr (by decide +kernel) rfl (Nat.le_of_ble_eq_true rfl) (fun p e s m below meth c Q AS ls hx hb hml hown hts hK hDD hA0 hP hS hl RET => ?_)
  have hown : s.vm.findClass RX12 = some m.cls := hown
  have hl : lv_has ls 4 [(0, .ref (q 0)), (1, .int (iI x1)), (2, .int (iI x2))] := hl
  have hiX12 : ∀ w ∈ u_ws RX12 TX12 85, w ∈ ws_mc_X12_number := fun w h => List.mem_cons_of_mem _ (List.mem_append_right _ h)
  obtain ⟨H, hHe⟩ : ∃ H : Heap, H = s.heap := ⟨_, rfl⟩
  rw [← hHe] at hP
  have hS : va_S AS s.heap H [] := by rw [hHe]; exact hS
  suffices hgo : ∀ locs : List Loc, va_S AS s.heap H locs → W p l e (headSpec ws_mc_X12_number ({ frames := 2, cells := 0, slots := 0, locals := 47 } : Room)).room s m [.ref (q 0), .int (iI x1), .int (iI x2)].toArray below meth c H locs 0 0 Q (F0 m 0 ls []) by
    have := hgo [] hS
    rw [hHe] at this
    exact this
  clear hS hHe
  intro locs hS
  refine lv_aload_n hx hb dX12_number_0 rfl (lv_at hl 0 rfl) ?_
  refine va_get (D := (dC, dI)) (ci := 12) (v := .int (iI (A 0 8))) (C := RX12) (T := TX12) (N := 85) hx hb hts hiX12 hown hK hP 0 wm0 rfl 8 (by decide) (hts _ (List.mem_of_getElem? (i := 1) rfl)) (fun _ h9 => h9) rfl dX12_number_1 ?_
  have r_A_0_8 : (0 : Int) ≤ (A 0 8) ∧ (A 0 8) ≤ 5 := hI 0 8
  refine lv_if_le (tgt := 9) hx hb dX12_number_4 (by decide) (fun c1 => ?_) (fun c1 => ?_)
  · have c1 : (A 0 8) ≤ 0 := (i_le0 ⟨by omega, by omega⟩).mp c1
    refine lv_aload_n hx hb dX12_number_9 rfl (lv_at hl 0 rfl) ?_
    refine va_get (D := (dC, dI)) (ci := 12) (v := .int (iI (A 0 3))) (C := RX12) (T := TX12) (N := 85) hx hb hts hiX12 hown hK hP 0 wm0 rfl 3 (by decide) (hts _ (List.mem_of_getElem? (i := 2) rfl)) (fun _ h9 => h9) rfl dX12_number_10 ?_
    have r_A_0_3 : (0 : Int) ≤ (A 0 3) ∧ (A 0 3) ≤ 3 := hI 0 3
    refine lv_iconst (v := iI 2) hx hb dX12_number_13 (by decide +kernel) ?_
    have J26_3 : ∀ (A8 : St) (H : Heap) (locs : List Loc) (ls : Array Slot), IM A8 → fr [] [8, 9] A A8 → va_P (dC, dI) vwCl (WM cI cJ cZ q A8) H → va_S AS s.heap H locs → lv_has ls 4 [(0, .ref (q 0)), (1, .int (iI x1)), (2, .int (iI x2))] → W p l e (headSpec ws_mc_X12_number ({ frames := 2, cells := 0, slots := 0, locals := 47 } : Room)).room s m [.ref (q 0), .int (iI x1), .int (iI x2)].toArray below meth c H locs 0 0 Q (F0 m 26 ls []) := by
      intro A8 H locs ls hI hj7 hP hS hl
      refine lv_aload_n hx hb dX12_number_26 rfl (lv_at hl 0 rfl) ?_
      refine va_get (D := (dC, dI)) (ci := 12) (v := .int (iI (A8 0 8))) (C := RX12) (T := TX12) (N := 85) hx hb hts hiX12 hown hK hP 0 wm0 rfl 8 (by decide) (hts _ (List.mem_of_getElem? (i := 1) rfl)) (fun _ h9 => h9) rfl dX12_number_27 ?_
      have r_A8_0_8 : (0 : Int) ≤ (A8 0 8) ∧ (A8 0 8) ≤ 5 := hI 0 8
      have J54_10 : ∀ (A19 : St) (H : Heap) (locs : List Loc) (ls : Array Slot), IM A19 → fr [] [8, 9] A8 A19 → va_P (dC, dI) vwCl (WM cI cJ cZ q A19) H → va_S AS s.heap H locs → lv_has ls 4 [(0, .ref (q 0)), (1, .int (iI x1)), (2, .int (iI x2))] → W p l e (headSpec ws_mc_X12_number ({ frames := 2, cells := 0, slots := 0, locals := 47 } : Room)).room s m [.ref (q 0), .int (iI x1), .int (iI x2)].toArray below meth c H locs 0 0 Q (F0 m 54 ls []) := by
        intro A19 H locs ls hI hj18 hP hS hl
        refine lv_aload_n hx hb dX12_number_54 rfl (lv_at hl 0 rfl) ?_
        have e_A8_6 : A8 0 6 = (A 0 6) := (hj7.2 6 rfl)
        have e_A19_6 : A19 0 6 = (A 0 6) := (hj18.2 6 rfl).trans e_A8_6
        refine va_get (D := (dC, dI)) (ci := 12) (v := .int (iI (A19 0 6))) (C := RX12) (T := TX12) (N := 85) hx hb hts hiX12 hown hK hP 0 wm0 rfl 6 (by decide) (hts _ (List.mem_of_getElem? (i := 10) rfl)) (fun _ h9 => h9) rfl dX12_number_55 ?_
        refine tp_i (y := iI (A 0 6)) (congrArg iI e_A19_6) ?_
        have r_A_0_6 : (-2147483648 : Int) ≤ (A 0 6) ∧ (A 0 6) ≤ 2147483647 := by rw [← e_A19_6]; exact hI 0 6
        refine lv_istore_n (lv' := [(3, .int (iI (A 0 6))), (0, .ref (q 0)), (1, .int (iI x1)), (2, .int (iI x2))]) hx hb dX12_number_58 rfl hl (by decide) rfl (fun ls hl => ?_)
        refine lv_aload_n hx hb dX12_number_59 rfl (lv_at hl 1 rfl) ?_
        refine va_get (D := (dC, dI)) (ci := 12) (v := .int (iI (A19 0 8))) (C := RX12) (T := TX12) (N := 85) hx hb hts hiX12 hown hK hP 0 wm0 rfl 8 (by decide) (hts _ (List.mem_of_getElem? (i := 1) rfl)) (fun _ h9 => h9) rfl dX12_number_60 ?_
        have r_A19_0_8 : (0 : Int) ≤ (A19 0 8) ∧ (A19 0 8) ≤ 5 := hI 0 8
        refine lv_if_ne (tgt := 70) hx hb dX12_number_63 (by decide) (fun c20 => ?_) (fun c20 => ?_)
        · have c20 : ¬ (A19 0 8) = 0 := mt (i_eq0 ⟨by omega, by omega⟩).mpr c20
          refine lv_iload_n hx hb dX12_number_70 rfl (lv_at hl 0 rfl) ?_
          exact RET (A 0 6) _ _ _ _ _ ⟨hI, fr.trans (fr.trans (fr.rf) hj7 rfl rfl) hj18 rfl rfl, by omega⟩ hP hS dX12_number_71
        · have c20 : (A19 0 8) = 0 := (i_eq0 ⟨by omega, by omega⟩).mp c20
          refine lv_aload_n hx hb dX12_number_66 rfl (lv_at hl 1 rfl) ?_
          refine x_callv (As := []) (rest := []) ⟨hx, hb, hml, hown, hts⟩ (mc_X12_ahead l dC dI cB cI cJ cZ cQ q _ hI) (cwV 0 hts g_mc_X12_number_3 rfl rfl rfl (by decide +kernel) ⟨Nat.le_of_ble_eq_true rfl, Nat.le_of_ble_eq_true rfl⟩) hK hDD hA0 hP hS 0 12 wm0 rfl rfl hl.1 (Nat.le_of_ble_eq_true rfl) dX12_number_67 (fun A21 H locs hw22 hP hS => ?_)
          obtain ⟨hI, hf23, hw22⟩ := hw22
          clear hw22
          refine lv_iload_n hx hb dX12_number_70 rfl (lv_at hl 0 rfl) ?_
          exact RET (A 0 6) _ _ _ _ _ ⟨hI, fr.trans (fr.trans (fr.trans (fr.rf) hj7 rfl rfl) hj18 rfl rfl) hf23 rfl rfl, by omega⟩ hP hS dX12_number_71
      refine lv_if_ne (tgt := 54) hx hb dX12_number_30 (by decide) (fun c9 => ?_) (fun c9 => ?_)
      · have c9 : ¬ (A8 0 8) = 0 := mt (i_eq0 ⟨by omega, by omega⟩).mpr c9
        exact J54_10 _ _ _ _ hI (fr.rf) hP hS (lv_sub hl [0, 1, 2] rfl)
      · have c9 : (A8 0 8) = 0 := (i_eq0 ⟨by omega, by omega⟩).mp c9
        refine lv_aload_n hx hb dX12_number_33 rfl (lv_at hl 0 rfl) ?_
        have e_A8_6 : A8 0 6 = (A 0 6) := (hj7.2 6 rfl)
        refine va_get (D := (dC, dI)) (ci := 12) (v := .int (iI (A8 0 6))) (C := RX12) (T := TX12) (N := 85) hx hb hts hiX12 hown hK hP 0 wm0 rfl 6 (by decide) (hts _ (List.mem_of_getElem? (i := 10) rfl)) (fun _ h9 => h9) rfl dX12_number_34 ?_
        refine tp_i (y := iI (A 0 6)) (congrArg iI e_A8_6) ?_
        have r_A_0_6 : (-2147483648 : Int) ≤ (A 0 6) ∧ (A 0 6) ≤ 2147483647 := by rw [← e_A8_6]; exact hI 0 6
        refine lv_iload_n hx hb dX12_number_37 rfl (lv_at hl 1 rfl) ?_
        refine lv_iload_n hx hb dX12_number_38 rfl (lv_at hl 2 rfl) ?_
        refine x_callSi (As := [.int (iI (A 0 6)), .int (iI x1), .int (iI x2)]) (rest := []) ⟨hx, hb, hml, hown, hts⟩ (mc_X12_is l dC dI cB cI cJ cZ cQ q _ (A 0 6) x1 x2 hI ⟨by omega, by omega⟩ ⟨by omega, by omega⟩ ⟨by omega, by omega⟩) (va_cwS 3 hts g_mc_X12_number_1 rfl rfl rfl (by decide +kernel) ⟨Nat.le_of_ble_eq_true rfl, Nat.le_of_ble_eq_true rfl⟩) hK hDD hA0 hP hS rfl hl.1 (Nat.le_of_ble_eq_true rfl) dX12_number_39 (fun z11 A12 H locs hw13 hP hS => ?_)
        obtain ⟨rfl, hw13⟩ := hw13
        refine lv_if_ne (tgt := 54) hx hb dX12_number_42 (by decide) (fun c14 => ?_) (fun c14 => ?_)
        · have c14 : ¬ z11 = 0 := mt (i_eq0 ⟨by omega, by omega⟩).mpr c14
          exact J54_10 _ _ _ _ hI (fr.rf) hP hS (lv_sub hl [0, 1, 2] rfl)
        · have c14 : z11 = 0 := (i_eq0 ⟨by omega, by omega⟩).mp c14
          refine lv_aload_n hx hb dX12_number_45 rfl (lv_at hl 0 rfl) ?_
          refine lv_iconst (v := iI 4) hx hb dX12_number_46 (by decide +kernel) ?_
          refine lv_aload_n hx hb dX12_number_47 rfl (lv_at hl 0 rfl) ?_
          have e_A8_4 : A8 0 4 = (A 0 4) := (hj7.2 4 rfl)
          refine va_get (D := (dC, dI)) (ci := 12) (v := .int (iI (A8 0 4))) (C := RX12) (T := TX12) (N := 85) hx hb hts hiX12 hown hK hP 0 wm0 rfl 4 (by decide) (hts _ (List.mem_of_getElem? (i := 3) rfl)) (fun _ h9 => h9) rfl dX12_number_48 ?_
          refine tp_i (y := iI (A 0 4)) (congrArg iI e_A8_4) ?_
          have r_A_0_4 : (0 : Int) ≤ (A 0 4) ∧ (A 0 4) ≤ 1600 := by rw [← e_A8_4]; exact hI 0 4
          refine x_callv (As := [.int (iI 4), .int (iI (A 0 4))]) (rest := []) ⟨hx, hb, hml, hown, hts⟩ (mc_X12_blame l dC dI cB cI cJ cZ cQ q _ 4 (A 0 4) hI ⟨by omega, by omega⟩ ⟨by omega, by omega⟩) (cwV 2 hts g_mc_X12_number_2 rfl rfl rfl (by decide +kernel) ⟨Nat.le_of_ble_eq_true rfl, Nat.le_of_ble_eq_true rfl⟩) hK hDD hA0 hP hS 0 12 wm0 rfl rfl hl.1 (Nat.le_of_ble_eq_true rfl) dX12_number_51 (fun A15 H locs hw16 hP hS => ?_)
          obtain ⟨hI, hf17, hw16⟩ := hw16
          have r_A15_0_8 : (0 : Int) ≤ (A15 0 8) ∧ (A15 0 8) ≤ 5 := hI 0 8
          exact J54_10 _ _ _ _ hI (fr.trans (fr.rf) hf17 rfl rfl) hP hS (lv_sub hl [0, 1, 2] rfl)
    refine lv_icmp_eq (tgt := 26) hx hb dX12_number_14 (by decide) (fun c2 => ?_) (fun c2 => ?_)
    · have c2 : (A 0 3) = 2 := (i_eq ⟨by omega, by omega⟩ ⟨by decide, by decide⟩).mp c2
      exact J26_3 _ _ _ _ hI (fr.rf) hP hS (lv_sub hl [0, 1, 2] rfl)
    · have c2 : ¬ (A 0 3) = 2 := mt (i_eq ⟨by omega, by omega⟩ ⟨by decide, by decide⟩).mpr c2
      refine lv_aload_n hx hb dX12_number_17 rfl (lv_at hl 0 rfl) ?_
      refine lv_iconst (v := iI 1) hx hb dX12_number_18 (by decide +kernel) ?_
      refine lv_aload_n hx hb dX12_number_19 rfl (lv_at hl 0 rfl) ?_
      refine va_get (D := (dC, dI)) (ci := 12) (v := .int (iI (A 0 4))) (C := RX12) (T := TX12) (N := 85) hx hb hts hiX12 hown hK hP 0 wm0 rfl 4 (by decide) (hts _ (List.mem_of_getElem? (i := 3) rfl)) (fun _ h9 => h9) rfl dX12_number_20 ?_
      have r_A_0_4 : (0 : Int) ≤ (A 0 4) ∧ (A 0 4) ≤ 1600 := hI 0 4
      refine x_callv (As := [.int (iI 1), .int (iI (A 0 4))]) (rest := []) ⟨hx, hb, hml, hown, hts⟩ (mc_X12_blame l dC dI cB cI cJ cZ cQ q _ 1 (A 0 4) hI ⟨by omega, by omega⟩ ⟨by omega, by omega⟩) (cwV 2 hts g_mc_X12_number_0 rfl rfl rfl (by decide +kernel) ⟨Nat.le_of_ble_eq_true rfl, Nat.le_of_ble_eq_true rfl⟩) hK hDD hA0 hP hS 0 12 wm0 rfl rfl hl.1 (Nat.le_of_ble_eq_true rfl) dX12_number_23 (fun A4 H locs hw5 hP hS => ?_)
      obtain ⟨hI, hf6, hw5⟩ := hw5
      have r_A4_0_8 : (0 : Int) ≤ (A4 0 8) ∧ (A4 0 8) ≤ 5 := hI 0 8
      exact J26_3 _ _ _ _ hI (fr.trans (fr.rf) hf6 rfl rfl) hP hS (lv_sub hl [0, 1, 2] rfl)
  · have c1 : ¬ (A 0 8) ≤ 0 := mt (i_le0 ⟨by omega, by omega⟩).mpr c1
    refine lv_iconst (v := iI 0) hx hb dX12_number_7 (by decide +kernel) ?_
    exact RET 0 _ _ _ _ _ ⟨hI, fr.rf, by omega⟩ hP hS dX12_number_8

def ws_mc_X12_counts : List Cond := .code yX12_counts cX12_counts 2 (some .boolean) :: ([.fieldLink RX12 36 "StackKeysModel" "faultKind" "I", .fieldLink RX12 23 "StackKeysModel" "signAt" "I", .methodLink RX12 286 yX12_blame, .instanceMethod yX12_blame, .selects RX12 yX12_blame yX12_blame, .initialized RX12, .code yX12_blame cX12_blame 3 none, .fieldLink RX12 39 "StackKeysModel" "faultPlace" "I", .methodLink RX12 293 yX12_ahead, .instanceMethod yX12_ahead, .selects RX12 yX12_ahead yX12_ahead, .code yX12_ahead cX12_ahead 6 none, .fieldLink RX12 26 "StackKeysModel" "signEnd" "I", .fieldLink RX12 17 "StackKeysModel" "size" "I", .fieldLink RX12 7 "StackKeysModel" "tape" "[I", .fieldLink RX12 20 "StackKeysModel" "sign" "I", .methodLink RX12 279 yX12_isLetter, .static yX12_isLetter, .code yX12_isLetter cX12_isLetter 1 (some .boolean), .methodLink RX12 283 yX12_isDigit, .static yX12_isDigit, .code yX12_isDigit cX12_isDigit 1 (some .boolean), .fieldLink RX12 29 "StackKeysModel" "value" "I", .fieldLink RX12 32 "StackKeysModel" "word" "J"] ++ wsX120)
set_option maxRecDepth 20000 in
theorem g_mc_X12_counts_0 : GoodIn ws_mc_X12_counts (wsV RX12 286 RX12 yX12_blame ws_mc_X12_blame) := goodIn_r _ [3, 4, 5, 6, 7, 1, 8, 25, 26, 27, 28, 29, 30, 31, 32, 33, 34, 35, 36, 37, 38, 39, 40, 41, 42, 43, 44, 45, 46, 47, 48, 49, 50, 51, 52, 53, 54, 55, 56, 57, 58, 59, 60, 61, 62, 63, 64, 65, 66, 67, 68, 69, 70, 71, 72, 73, 74, 75, 76, 77, 78, 79, 80, 81, 82, 83, 84, 85, 86, 87, 88, 89, 90, 91, 92, 93, 94, 95, 96, 97, 98, 99, 100, 101, 102, 103, 104, 105, 106, 107, 108, 109] (by decide +kernel) (by decide +kernel)
set_option maxRecDepth 20000 in
theorem g_mc_X12_counts_1 : GoodIn ws_mc_X12_counts (wsV RX12 293 RX12 yX12_ahead ws_mc_X12_ahead) := goodIn_r _ [9, 10, 11, 6, 12, 13, 14, 15, 2, 16, 17, 18, 6, 19, 20, 21, 22, 3, 4, 5, 7, 1, 8, 23, 24, 25, 26, 27, 28, 29, 30, 31, 32, 33, 34, 35, 36, 37, 38, 39, 40, 41, 42, 43, 44, 45, 46, 47, 48, 49, 50, 51, 52, 53, 54, 55, 56, 57, 58, 59, 60, 61, 62, 63, 64, 65, 66, 67, 68, 69, 70, 71, 72, 73, 74, 75, 76, 77, 78, 79, 80, 81, 82, 83, 84, 85, 86, 87, 88, 89, 90, 91, 92, 93, 94, 95, 96, 97, 98, 99, 100, 101, 102, 103, 104, 105, 106, 107, 108, 109] (by decide +kernel) (by decide +kernel)
set_option maxHeartbeats 4000000 in
set_option maxRecDepth 100000 in
theorem mc_X12_counts (l : Launch) (dC : Nat → ClassId) (dI : Nat → Nat → Nat) (cB cI cJ cZ cQ : ClassId) (q : Nat → Nat) (A : St) (x1 : Int) (hI : IM A) (hx1 : (0 : Int) ≤ x1 ∧ x1 ≤ 1) : XMi l yX12_counts ws_mc_X12_counts ({ frames := 2, cells := 0, slots := 0, locals := 47 } : Room) (dC, dI) (tyA cB cI cJ cZ cQ) (WM cI cJ cZ q) A [.ref (q 0), .int (iI x1)] (fun z u => IM u ∧ fr [] [3, 4, 5, 6, 7, 8, 9] A u ∧ ((0 ≤ z ∧ z ≤ 1) ∧ (z = 1 → x1 = 0 ∧ u 0 8 = 0))) := by
  refine x_metz (cc := cX12_counts) (maxL := 2) WM_adr (by decide +kernel) rfl (Nat.le_of_ble_eq_true rfl) (fun z u h => h.2.2.1) (fun p e s m below meth c Q AS ls hx hb hml hown hts hK hDD hA0 hP hS hl RET => ?_)
  have hown : s.vm.findClass RX12 = some m.cls := hown
  have hl : lv_has ls 2 [(0, .ref (q 0)), (1, .int (iI x1))] := hl
  have hiX12 : ∀ w ∈ u_ws RX12 TX12 85, w ∈ ws_mc_X12_counts := fun w h => List.mem_cons_of_mem _ (List.mem_append_right _ h)
  obtain ⟨H, hHe⟩ : ∃ H : Heap, H = s.heap := ⟨_, rfl⟩
  rw [← hHe] at hP
  have hS : va_S AS s.heap H [] := by rw [hHe]; exact hS
  suffices hgo : ∀ locs : List Loc, va_S AS s.heap H locs → W p l e (headSpec ws_mc_X12_counts ({ frames := 2, cells := 0, slots := 0, locals := 47 } : Room)).room s m [.ref (q 0), .int (iI x1)].toArray below meth c H locs 0 0 Q (F0 m 0 ls []) by
    have := hgo [] hS
    rw [hHe] at this
    exact this
  clear hS hHe
  intro locs hS
  refine lv_aload_n hx hb dX12_counts_0 rfl (lv_at hl 0 rfl) ?_
  refine va_get (D := (dC, dI)) (ci := 12) (v := .int (iI (A 0 8))) (C := RX12) (T := TX12) (N := 85) hx hb hts hiX12 hown hK hP 0 wm0 rfl 8 (by decide) (hts _ (List.mem_of_getElem? (i := 1) rfl)) (fun _ h9 => h9) rfl dX12_counts_1 ?_
  have r_A_0_8 : (0 : Int) ≤ (A 0 8) ∧ (A 0 8) ≤ 5 := hI 0 8
  have J20_2 : ∀ (A8 : St) (H : Heap) (locs : List Loc) (ls : Array Slot), ((A8 0 8) = 0 → x1 = 0) → IM A8 → fr [] [8, 9] A A8 → va_P (dC, dI) vwCl (WM cI cJ cZ q A8) H → va_S AS s.heap H locs → lv_has ls 2 [(0, .ref (q 0)), (1, .int (iI x1))] → W p l e (headSpec ws_mc_X12_counts ({ frames := 2, cells := 0, slots := 0, locals := 47 } : Room)).room s m [.ref (q 0), .int (iI x1)].toArray below meth c H locs 0 0 Q (F0 m 20 ls []) := by
    intro A8 H locs ls f9 hI hj7 hP hS hl
    refine lv_aload_n hx hb dX12_counts_20 rfl (lv_at hl 0 rfl) ?_
    refine va_get (D := (dC, dI)) (ci := 12) (v := .int (iI (A8 0 8))) (C := RX12) (T := TX12) (N := 85) hx hb hts hiX12 hown hK hP 0 wm0 rfl 8 (by decide) (hts _ (List.mem_of_getElem? (i := 1) rfl)) (fun _ h9 => h9) rfl dX12_counts_21 ?_
    have r_A8_0_8 : (0 : Int) ≤ (A8 0 8) ∧ (A8 0 8) ≤ 5 := hI 0 8
    have J31_11 : ∀ (A16 : St) (H : Heap) (locs : List Loc) (ls : Array Slot), ((A16 0 8) = 0 → x1 = 0) → IM A16 → fr [] [3, 4, 5, 6, 7, 8, 9] A8 A16 → va_P (dC, dI) vwCl (WM cI cJ cZ q A16) H → va_S AS s.heap H locs → lv_has ls 2 [(0, .ref (q 0)), (1, .int (iI x1))] → W p l e (headSpec ws_mc_X12_counts ({ frames := 2, cells := 0, slots := 0, locals := 47 } : Room)).room s m [.ref (q 0), .int (iI x1)].toArray below meth c H locs 0 0 Q (F0 m 31 ls []) := by
      intro A16 H locs ls f17 hI hj15 hP hS hl
      refine lv_aload_n hx hb dX12_counts_31 rfl (lv_at hl 0 rfl) ?_
      refine va_get (D := (dC, dI)) (ci := 12) (v := .int (iI (A16 0 8))) (C := RX12) (T := TX12) (N := 85) hx hb hts hiX12 hown hK hP 0 wm0 rfl 8 (by decide) (hts _ (List.mem_of_getElem? (i := 1) rfl)) (fun _ h9 => h9) rfl dX12_counts_32 ?_
      have r_A16_0_8 : (0 : Int) ≤ (A16 0 8) ∧ (A16 0 8) ≤ 5 := hI 0 8
      refine lv_if_ne (tgt := 42) hx hb dX12_counts_35 (by decide) (fun c18 => ?_) (fun c18 => ?_)
      · have c18 : ¬ (A16 0 8) = 0 := mt (i_eq0 ⟨by omega, by omega⟩).mpr c18
        refine lv_iconst (v := iI 0) hx hb dX12_counts_42 (by decide +kernel) ?_
        exact RET 0 _ _ _ _ _ ⟨hI, fr.trans (fr.trans (fr.rf) hj7 rfl rfl) hj15 rfl rfl, by omega⟩ hP hS dX12_counts_43
      · have c18 : (A16 0 8) = 0 := (i_eq0 ⟨by omega, by omega⟩).mp c18
        refine lv_iconst (v := iI 1) hx hb dX12_counts_38 (by decide +kernel) ?_
        refine lv_goto (tgt := 43) hx hb dX12_counts_39 (by decide) ?_
        exact RET 1 _ _ _ _ _ ⟨hI, fr.trans (fr.trans (fr.rf) hj7 rfl rfl) hj15 rfl rfl, by omega⟩ hP hS dX12_counts_43
    refine lv_if_ne (tgt := 31) hx hb dX12_counts_24 (by decide) (fun c10 => ?_) (fun c10 => ?_)
    · have c10 : ¬ (A8 0 8) = 0 := mt (i_eq0 ⟨by omega, by omega⟩).mpr c10
      exact J31_11 _ _ _ _ (by omega) hI (fr.rf) hP hS (lv_sub hl [0, 1] rfl)
    · have c10 : (A8 0 8) = 0 := (i_eq0 ⟨by omega, by omega⟩).mp c10
      refine lv_aload_n hx hb dX12_counts_27 rfl (lv_at hl 0 rfl) ?_
      refine x_callv (As := []) (rest := []) ⟨hx, hb, hml, hown, hts⟩ (mc_X12_ahead l dC dI cB cI cJ cZ cQ q _ hI) (cwV 0 hts g_mc_X12_counts_1 rfl rfl rfl (by decide +kernel) ⟨Nat.le_of_ble_eq_true rfl, Nat.le_of_ble_eq_true rfl⟩) hK hDD hA0 hP hS 0 12 wm0 rfl rfl hl.1 (Nat.le_of_ble_eq_true rfl) dX12_counts_28 (fun A12 H locs hw13 hP hS => ?_)
      obtain ⟨hI, hf14, hw13⟩ := hw13
      clear hw13
      have r_A12_0_8 : (0 : Int) ≤ (A12 0 8) ∧ (A12 0 8) ≤ 5 := hI 0 8
      exact J31_11 _ _ _ _ (by omega) hI (fr.trans (fr.rf) hf14 rfl rfl) hP hS (lv_sub hl [0, 1] rfl)
  refine lv_if_ne (tgt := 20) hx hb dX12_counts_4 (by decide) (fun c1 => ?_) (fun c1 => ?_)
  · have c1 : ¬ (A 0 8) = 0 := mt (i_eq0 ⟨by omega, by omega⟩).mpr c1
    exact J20_2 _ _ _ _ (by omega) hI (fr.rf) hP hS (lv_sub hl [0, 1] rfl)
  · have c1 : (A 0 8) = 0 := (i_eq0 ⟨by omega, by omega⟩).mp c1
    refine lv_iload_n hx hb dX12_counts_7 rfl (lv_at hl 1 rfl) ?_
    refine lv_if_eq (tgt := 20) hx hb dX12_counts_8 (by decide) (fun c3 => ?_) (fun c3 => ?_)
    · have c3 : x1 = 0 := (i_eq0 ⟨by omega, by omega⟩).mp c3
      exact J20_2 _ _ _ _ (by omega) hI (fr.rf) hP hS (lv_sub hl [0, 1] rfl)
    · have c3 : ¬ x1 = 0 := mt (i_eq0 ⟨by omega, by omega⟩).mpr c3
      refine lv_aload_n hx hb dX12_counts_11 rfl (lv_at hl 0 rfl) ?_
      refine lv_iconst (v := iI 5) hx hb dX12_counts_12 (by decide +kernel) ?_
      refine lv_aload_n hx hb dX12_counts_13 rfl (lv_at hl 0 rfl) ?_
      refine va_get (D := (dC, dI)) (ci := 12) (v := .int (iI (A 0 4))) (C := RX12) (T := TX12) (N := 85) hx hb hts hiX12 hown hK hP 0 wm0 rfl 4 (by decide) (hts _ (List.mem_of_getElem? (i := 2) rfl)) (fun _ h9 => h9) rfl dX12_counts_14 ?_
      have r_A_0_4 : (0 : Int) ≤ (A 0 4) ∧ (A 0 4) ≤ 1600 := hI 0 4
      refine x_callv (As := [.int (iI 5), .int (iI (A 0 4))]) (rest := []) ⟨hx, hb, hml, hown, hts⟩ (mc_X12_blame l dC dI cB cI cJ cZ cQ q _ 5 (A 0 4) hI ⟨by omega, by omega⟩ ⟨by omega, by omega⟩) (cwV 2 hts g_mc_X12_counts_0 rfl rfl rfl (by decide +kernel) ⟨Nat.le_of_ble_eq_true rfl, Nat.le_of_ble_eq_true rfl⟩) hK hDD hA0 hP hS 0 12 wm0 rfl rfl hl.1 (Nat.le_of_ble_eq_true rfl) dX12_counts_17 (fun A4 H locs hw5 hP hS => ?_)
      obtain ⟨hI, hf6, hw5⟩ := hw5
      have r_A4_0_8 : (0 : Int) ≤ (A4 0 8) ∧ (A4 0 8) ≤ 5 := hI 0 8
      exact J20_2 _ _ _ _ (by omega) hI (fr.trans (fr.rf) hf6 rfl rfl) hP hS (lv_sub hl [0, 1] rfl)

def ws_mc_X12_fresh : List Cond := .code yX12_fresh cX12_fresh 3 (some .long) :: ([.fieldLink RX12 36 "StackKeysModel" "faultKind" "I", .fieldLink RX12 20 "StackKeysModel" "sign" "I", .fieldLink RX12 32 "StackKeysModel" "word" "J", .methodLink RX12 387 yX12_isOwn, .instanceMethod yX12_isOwn, .selects RX12 yX12_isOwn yX12_isOwn, .initialized RX12, .code yX12_isOwn cX12_isOwn 3 (some .boolean), .constantLong RX12 296 (482854658917), .constantLong RX12 298 (1685024626), .constantLong RX12 300 (6451064), .constantLong RX12 302 (24948), .constantLong RX12 304 (7038329), .constantLong RX12 306 (26990), .constantLong RX12 308 (123581014175598), .constantLong RX12 310 (6840691), .constantLong RX12 312 (1936225652), .constantLong RX12 314 (25209), .constantLong RX12 316 (1819243380), .constantLong RX12 318 (499967946343), .constantLong RX12 320 (512735736947), .constantLong RX12 322 (1836413812), .constantLong RX12 324 (6447474), .constantLong RX12 326 (2003330414), .constantLong RX12 328 (28530), .constantLong RX12 330 (6385252), .constantLong RX12 332 (7237492), .constantLong RX12 334 (6384748), .constantLong RX12 336 (7825519), .constantLong RX12 338 (1936748404), .constantLong RX12 340 (1801812339), .constantLong RX12 342 (109317377451364), .constantLong RX12 344 (7170414), .constantLong RX12 346 (7168376), .fieldLink RX12 23 "StackKeysModel" "signAt" "I", .methodLink RX12 286 yX12_blame, .instanceMethod yX12_blame, .selects RX12 yX12_blame yX12_blame, .code yX12_blame cX12_blame 3 none, .fieldLink RX12 39 "StackKeysModel" "faultPlace" "I", .methodLink RX12 390 yX12_named, .instanceMethod yX12_named, .selects RX12 yX12_named yX12_named, .code yX12_named cX12_named 6 (some .int), .fieldLink RX12 104 "StackKeysModel" "things" "[I", .fieldLink RX12 155 "StackKeysModel" "in" "I", .fieldLink RX12 95 "StackKeysModel" "persons" "[I", .fieldLink RX12 80 "StackKeysModel" "keys" "[I", .fieldLink RX12 58 "StackKeysModel" "doors" "[I", .fieldLink RX12 51 "StackKeysModel" "places" "[I", .methodLink RX12 348 yX12_nameOf, .instanceMethod yX12_nameOf, .selects RX12 yX12_nameOf yX12_nameOf, .code yX12_nameOf cX12_nameOf 4 (some .long), .fieldLink RX12 107 "StackKeysModel" "thingName" "[J", .fieldLink RX12 54 "StackKeysModel" "placeName" "[J", .fieldLink RX12 61 "StackKeysModel" "doorName" "[J", .fieldLink RX12 83 "StackKeysModel" "keyName" "[J", .fieldLink RX12 98 "StackKeysModel" "personName" "[J", .methodLink RX12 293 yX12_ahead, .instanceMethod yX12_ahead, .selects RX12 yX12_ahead yX12_ahead, .code yX12_ahead cX12_ahead 6 none, .fieldLink RX12 26 "StackKeysModel" "signEnd" "I", .fieldLink RX12 17 "StackKeysModel" "size" "I", .fieldLink RX12 7 "StackKeysModel" "tape" "[I", .methodLink RX12 279 yX12_isLetter, .static yX12_isLetter, .code yX12_isLetter cX12_isLetter 1 (some .boolean), .methodLink RX12 283 yX12_isDigit, .static yX12_isDigit, .code yX12_isDigit cX12_isDigit 1 (some .boolean), .fieldLink RX12 29 "StackKeysModel" "value" "I"] ++ wsX120)
set_option maxRecDepth 20000 in
theorem g_mc_X12_fresh_0 : GoodIn ws_mc_X12_fresh (wsV RX12 387 RX12 yX12_isOwn ws_mc_X12_isOwn) := goodIn_r _ [4, 5, 6, 7, 8, 9, 10, 11, 12, 13, 14, 15, 16, 17, 18, 19, 20, 21, 22, 23, 24, 25, 26, 27, 28, 29, 30, 31, 32, 33, 34] (by decide +kernel) (by decide +kernel)
set_option maxRecDepth 20000 in
theorem g_mc_X12_fresh_1 : GoodIn ws_mc_X12_fresh (wsV RX12 286 RX12 yX12_blame ws_mc_X12_blame) := goodIn_r _ [36, 37, 38, 7, 39, 1, 40, 74, 75, 76, 77, 78, 79, 80, 81, 82, 83, 84, 85, 86, 87, 88, 89, 90, 91, 92, 93, 94, 95, 96, 97, 98, 99, 100, 101, 102, 103, 104, 105, 106, 107, 108, 109, 110, 111, 112, 113, 114, 115, 116, 117, 118, 119, 120, 121, 122, 123, 124, 125, 126, 127, 128, 129, 130, 131, 132, 133, 134, 135, 136, 137, 138, 139, 140, 141, 142, 143, 144, 145, 146, 147, 148, 149, 150, 151, 152, 153, 154, 155, 156, 157, 158] (by decide +kernel) (by decide +kernel)
set_option maxRecDepth 20000 in
theorem g_mc_X12_fresh_2 : GoodIn ws_mc_X12_fresh (wsV RX12 390 RX12 yX12_named ws_mc_X12_named) := goodIn_r _ [41, 42, 43, 7, 44, 45, 46, 47, 48, 49, 50, 51, 52, 53, 7, 54, 55, 56, 57, 58, 59, 74, 75, 76, 77, 78, 79, 80, 81, 82, 83, 84, 85, 86, 87, 88, 89, 90, 91, 92, 93, 94, 95, 96, 97, 98, 99, 100, 101, 102, 103, 104, 105, 106, 107, 108, 109, 110, 111, 112, 113, 114, 115, 116, 117, 118, 119, 120, 121, 122, 123, 124, 125, 126, 127, 128, 129, 130, 131, 132, 133, 134, 135, 136, 137, 138, 139, 140, 141, 142, 143, 144, 145, 146, 147, 148, 149, 150, 151, 152, 153, 154, 155, 156, 157, 158] (by decide +kernel) (by decide +kernel)
set_option maxRecDepth 20000 in
theorem g_mc_X12_fresh_3 : GoodIn ws_mc_X12_fresh (wsV RX12 286 RX12 yX12_blame ws_mc_X12_blame) := goodIn_r _ [36, 37, 38, 7, 39, 1, 40, 74, 75, 76, 77, 78, 79, 80, 81, 82, 83, 84, 85, 86, 87, 88, 89, 90, 91, 92, 93, 94, 95, 96, 97, 98, 99, 100, 101, 102, 103, 104, 105, 106, 107, 108, 109, 110, 111, 112, 113, 114, 115, 116, 117, 118, 119, 120, 121, 122, 123, 124, 125, 126, 127, 128, 129, 130, 131, 132, 133, 134, 135, 136, 137, 138, 139, 140, 141, 142, 143, 144, 145, 146, 147, 148, 149, 150, 151, 152, 153, 154, 155, 156, 157, 158] (by decide +kernel) (by decide +kernel)
set_option maxRecDepth 20000 in
theorem g_mc_X12_fresh_4 : GoodIn ws_mc_X12_fresh (wsV RX12 293 RX12 yX12_ahead ws_mc_X12_ahead) := goodIn_r _ [60, 61, 62, 7, 63, 64, 65, 66, 35, 2, 67, 68, 7, 69, 70, 71, 72, 36, 37, 38, 39, 1, 40, 73, 3, 74, 75, 76, 77, 78, 79, 80, 81, 82, 83, 84, 85, 86, 87, 88, 89, 90, 91, 92, 93, 94, 95, 96, 97, 98, 99, 100, 101, 102, 103, 104, 105, 106, 107, 108, 109, 110, 111, 112, 113, 114, 115, 116, 117, 118, 119, 120, 121, 122, 123, 124, 125, 126, 127, 128, 129, 130, 131, 132, 133, 134, 135, 136, 137, 138, 139, 140, 141, 142, 143, 144, 145, 146, 147, 148, 149, 150, 151, 152, 153, 154, 155, 156, 157, 158] (by decide +kernel) (by decide +kernel)
set_option maxHeartbeats 4000000 in
set_option maxRecDepth 100000 in
theorem mc_X12_fresh (l : Launch) (dC : Nat → ClassId) (dI : Nat → Nat → Nat) (cB cI cJ cZ cQ : ClassId) (q : Nat → Nat) (A : St) (hI : IM A) : XMl l yX12_fresh ws_mc_X12_fresh ({ frames := 2, cells := 0, slots := 0, locals := 48 } : Room) (dC, dI) (tyA cB cI cJ cZ cQ) (WM cI cJ cZ q) A [.ref (q 0)] (fun z u => IM u ∧ fr [] [3, 4, 5, 6, 7, 8, 9] A u ∧ (-9223372036854775808 ≤ z ∧ z ≤ 9223372036854775807)) := by
  refine x_metl (cc := cX12_fresh) (maxL := 3) WM_adr (by decide +kernel) rfl (Nat.le_of_ble_eq_true rfl) (fun p e s m below meth c Q AS ls hx hb hml hown hts hK hDD hA0 hP hS hl RET => ?_)
  have hown : s.vm.findClass RX12 = some m.cls := hown
  have hl : lv_has ls 3 [(0, .ref (q 0))] := hl
  have hiX12 : ∀ w ∈ u_ws RX12 TX12 85, w ∈ ws_mc_X12_fresh := fun w h => List.mem_cons_of_mem _ (List.mem_append_right _ h)
  obtain ⟨H, hHe⟩ : ∃ H : Heap, H = s.heap := ⟨_, rfl⟩
  rw [← hHe] at hP
  have hS : va_S AS s.heap H [] := by rw [hHe]; exact hS
  suffices hgo : ∀ locs : List Loc, va_S AS s.heap H locs → W p l e (headSpec ws_mc_X12_fresh ({ frames := 2, cells := 0, slots := 0, locals := 48 } : Room)).room s m [.ref (q 0)].toArray below meth c H locs 0 0 Q (F0 m 0 ls []) by
    have := hgo [] hS
    rw [hHe] at this
    exact this
  clear hS hHe
  intro locs hS
  refine lv_aload_n hx hb dX12_fresh_0 rfl (lv_at hl 0 rfl) ?_
  refine va_get (D := (dC, dI)) (ci := 12) (v := .int (iI (A 0 8))) (C := RX12) (T := TX12) (N := 85) hx hb hts hiX12 hown hK hP 0 wm0 rfl 8 (by decide) (hts _ (List.mem_of_getElem? (i := 1) rfl)) (fun _ h9 => h9) rfl dX12_fresh_1 ?_
  have r_A_0_8 : (0 : Int) ≤ (A 0 8) ∧ (A 0 8) ≤ 5 := hI 0 8
  refine lv_if_le (tgt := 9) hx hb dX12_fresh_4 (by decide) (fun c1 => ?_) (fun c1 => ?_)
  · have c1 : (A 0 8) ≤ 0 := (i_le0 ⟨by omega, by omega⟩).mp c1
    refine lv_aload_n hx hb dX12_fresh_9 rfl (lv_at hl 0 rfl) ?_
    refine va_get (D := (dC, dI)) (ci := 12) (v := .int (iI (A 0 3))) (C := RX12) (T := TX12) (N := 85) hx hb hts hiX12 hown hK hP 0 wm0 rfl 3 (by decide) (hts _ (List.mem_of_getElem? (i := 2) rfl)) (fun _ h9 => h9) rfl dX12_fresh_10 ?_
    have r_A_0_3 : (0 : Int) ≤ (A 0 3) ∧ (A 0 3) ≤ 3 := hI 0 3
    refine lv_iconst (v := iI 1) hx hb dX12_fresh_13 (by decide +kernel) ?_
    have J37_4 : ∀ (A14 : St) (H : Heap) (locs : List Loc) (ls : Array Slot), IM A14 → fr [] [8, 9] A A14 → va_P (dC, dI) vwCl (WM cI cJ cZ q A14) H → va_S AS s.heap H locs → lv_has ls 3 [(0, .ref (q 0))] → W p l e (headSpec ws_mc_X12_fresh ({ frames := 2, cells := 0, slots := 0, locals := 48 } : Room)).room s m [.ref (q 0)].toArray below meth c H locs 0 0 Q (F0 m 37 ls []) := by
      intro A14 H locs ls hI hj13 hP hS hl
      refine lv_iconst (v := iI 0) hx hb dX12_fresh_37 (by decide +kernel) ?_
      refine lv_istore_n (lv' := [(1, .int (iI 0)), (0, .ref (q 0))]) hx hb dX12_fresh_38 rfl hl (by decide) rfl (fun ls hl => ?_)
      have L39_18 : ∀ (n20 : Nat) (z15 : Int) (A17 : St) (H : Heap) (locs : List Loc) (ls : Array Slot), (0 ≤ z15) → (0 ≤ z15 ∧ z15 ≤ 2147483647) → ((4 - z15 + 1).toNat = n20) → IM A17 → fr [] [8, 9] A14 A17 → va_P (dC, dI) vwCl (WM cI cJ cZ q A17) H → va_S AS s.heap H locs → lv_has ls 3 [(1, .int (iI z15)), (0, .ref (q 0))] → W p l e (headSpec ws_mc_X12_fresh ({ frames := 2, cells := 0, slots := 0, locals := 48 } : Room)).room s m [.ref (q 0)].toArray below meth c H locs 0 0 Q (F0 m 39 ls []) := by
        intro n20
        induction n20 using Nat.strongRecOn with
        | ind n20 ih19 =>
          intro z15 A17 H locs ls f21 f22 hn20 hI hj16 hP hS hl
          refine lv_iload_n hx hb dX12_fresh_39 rfl (lv_at hl 0 rfl) ?_
          refine lv_iconst (v := iI 4) hx hb dX12_fresh_40 (by decide +kernel) ?_
          have J79_24 : ∀ (H : Heap) (locs : List Loc) (ls : Array Slot), va_P (dC, dI) vwCl (WM cI cJ cZ q A17) H → va_S AS s.heap H locs → lv_has ls 3 [(1, .int (iI z15)), (0, .ref (q 0))] → W p l e (headSpec ws_mc_X12_fresh ({ frames := 2, cells := 0, slots := 0, locals := 48 } : Room)).room s m [.ref (q 0)].toArray below meth c H locs 0 0 Q (F0 m 79 ls []) := by
            intro H locs ls hP hS hl
            refine lv_aload_n hx hb dX12_fresh_79 rfl (lv_at hl 1 rfl) ?_
            have e_A14_7 : A14 0 7 = (A 0 7) := (hj13.2 7 rfl)
            have e_A17_7 : A17 0 7 = (A 0 7) := (hj16.2 7 rfl).trans e_A14_7
            refine va_get (D := (dC, dI)) (ci := 12) (v := .long (jI (A17 0 7))) (C := RX12) (T := TX12) (N := 85) hx hb hts hiX12 hown hK hP 0 wm0 rfl 7 (by decide) (hts _ (List.mem_of_getElem? (i := 3) rfl)) (fun _ h9 => h9) rfl dX12_fresh_80 ?_
            refine tp_l (y := jI (A 0 7)) (congrArg jI e_A17_7) ?_
            have r_A_0_7 : (-9223372036854775808 : Int) ≤ (A 0 7) ∧ (A 0 7) ≤ 9223372036854775807 := by rw [← e_A17_7]; exact hI 0 7
            refine lv_lstore_n (lv' := [(1, .long (jI (A 0 7))), (0, .ref (q 0))]) hx hb dX12_fresh_83 rfl hl (by decide) rfl (fun ls hl => ?_)
            refine lv_aload_n hx hb dX12_fresh_84 rfl (lv_at hl 1 rfl) ?_
            refine va_get (D := (dC, dI)) (ci := 12) (v := .int (iI (A17 0 8))) (C := RX12) (T := TX12) (N := 85) hx hb hts hiX12 hown hK hP 0 wm0 rfl 8 (by decide) (hts _ (List.mem_of_getElem? (i := 1) rfl)) (fun _ h9 => h9) rfl dX12_fresh_85 ?_
            have r_A17_0_8 : (0 : Int) ≤ (A17 0 8) ∧ (A17 0 8) ≤ 5 := hI 0 8
            refine lv_if_ne (tgt := 95) hx hb dX12_fresh_88 (by decide) (fun c37 => ?_) (fun c37 => ?_)
            · have c37 : ¬ (A17 0 8) = 0 := mt (i_eq0 ⟨by omega, by omega⟩).mpr c37
              refine lv_lload_n hx hb dX12_fresh_95 rfl (lv_at hl 0 rfl) ?_
              exact RET (A 0 7) _ _ _ _ _ ⟨hI, fr.trans (fr.trans (fr.rf) hj13 rfl rfl) hj16 rfl rfl, by omega⟩ hP hS dX12_fresh_96
            · have c37 : (A17 0 8) = 0 := (i_eq0 ⟨by omega, by omega⟩).mp c37
              refine lv_aload_n hx hb dX12_fresh_91 rfl (lv_at hl 1 rfl) ?_
              refine x_callv (As := []) (rest := []) ⟨hx, hb, hml, hown, hts⟩ (mc_X12_ahead l dC dI cB cI cJ cZ cQ q _ hI) (cwV 0 hts g_mc_X12_fresh_4 rfl rfl rfl (by decide +kernel) ⟨Nat.le_of_ble_eq_true rfl, Nat.le_of_ble_eq_true rfl⟩) hK hDD hA0 hP hS 0 12 wm0 rfl rfl hl.1 (Nat.le_of_ble_eq_true rfl) dX12_fresh_92 (fun A38 H locs hw39 hP hS => ?_)
              obtain ⟨hI, hf40, hw39⟩ := hw39
              clear hw39
              refine lv_lload_n hx hb dX12_fresh_95 rfl (lv_at hl 0 rfl) ?_
              exact RET (A 0 7) _ _ _ _ _ ⟨hI, fr.trans (fr.trans (fr.trans (fr.rf) hj13 rfl rfl) hj16 rfl rfl) hf40 rfl rfl, by omega⟩ hP hS dX12_fresh_96
          refine lv_icmp_gt (tgt := 79) hx hb dX12_fresh_41 (by decide) (fun c23 => ?_) (fun c23 => ?_)
          · have c23 : 4 < z15 := (i_lt ⟨by decide, by decide⟩ ⟨by omega, by omega⟩).mp c23
            exact J79_24 _ _ _ hP hS (lv_sub hl [0, 1] rfl)
          · have c23 : ¬ 4 < z15 := mt (i_lt ⟨by decide, by decide⟩ ⟨by omega, by omega⟩).mpr c23
            refine lv_aload_n hx hb dX12_fresh_44 rfl (lv_at hl 1 rfl) ?_
            refine va_get (D := (dC, dI)) (ci := 12) (v := .int (iI (A17 0 8))) (C := RX12) (T := TX12) (N := 85) hx hb hts hiX12 hown hK hP 0 wm0 rfl 8 (by decide) (hts _ (List.mem_of_getElem? (i := 1) rfl)) (fun _ h9 => h9) rfl dX12_fresh_45 ?_
            have r_A17_0_8 : (0 : Int) ≤ (A17 0 8) ∧ (A17 0 8) ≤ 5 := hI 0 8
            refine lv_if_ne (tgt := 79) hx hb dX12_fresh_48 (by decide) (fun c25 => ?_) (fun c25 => ?_)
            · have c25 : ¬ (A17 0 8) = 0 := mt (i_eq0 ⟨by omega, by omega⟩).mpr c25
              exact J79_24 _ _ _ hP hS (lv_sub hl [0, 1] rfl)
            · have c25 : (A17 0 8) = 0 := (i_eq0 ⟨by omega, by omega⟩).mp c25
              refine lv_aload_n hx hb dX12_fresh_51 rfl (lv_at hl 1 rfl) ?_
              refine lv_iload_n hx hb dX12_fresh_52 rfl (lv_at hl 0 rfl) ?_
              refine lv_aload_n hx hb dX12_fresh_53 rfl (lv_at hl 1 rfl) ?_
              have e_A14_7 : A14 0 7 = (A 0 7) := (hj13.2 7 rfl)
              have e_A17_7 : A17 0 7 = (A 0 7) := (hj16.2 7 rfl).trans e_A14_7
              refine va_get (D := (dC, dI)) (ci := 12) (v := .long (jI (A17 0 7))) (C := RX12) (T := TX12) (N := 85) hx hb hts hiX12 hown hK hP 0 wm0 rfl 7 (by decide) (hts _ (List.mem_of_getElem? (i := 3) rfl)) (fun _ h9 => h9) rfl dX12_fresh_54 ?_
              refine tp_l (y := jI (A 0 7)) (congrArg jI e_A17_7) ?_
              have r_A_0_7 : (-9223372036854775808 : Int) ≤ (A 0 7) ∧ (A 0 7) ≤ 9223372036854775807 := by rw [← e_A17_7]; exact hI 0 7
              refine x_calli (As := [.int (iI z15), .long (jI (A 0 7))]) (rest := []) ⟨hx, hb, hml, hown, hts⟩ (mc_X12_named l dC dI cB cI cJ cZ cQ q _ z15 (A 0 7) hI ⟨by omega, by omega⟩ ⟨by omega, by omega⟩) (cwV 2 hts g_mc_X12_fresh_2 rfl rfl rfl (by decide +kernel) ⟨Nat.le_of_ble_eq_true rfl, Nat.le_of_ble_eq_true rfl⟩) hK hDD hA0 hP hS 0 12 wm0 rfl rfl hl.1 (Nat.le_of_ble_eq_true rfl) dX12_fresh_57 (fun z26 A27 H locs hw28 hP hS => ?_)
              obtain ⟨rfl, hw28⟩ := hw28
              refine lv_iconst (v := iI (-1)) hx hb dX12_fresh_60 (by decide +kernel) ?_
              have J73_30 : ∀ (A35 : St) (H : Heap) (locs : List Loc) (ls : Array Slot), IM A35 → fr [] [8, 9] A17 A35 → va_P (dC, dI) vwCl (WM cI cJ cZ q A35) H → va_S AS s.heap H locs → lv_has ls 3 [(1, .int (iI z15)), (0, .ref (q 0))] → W p l e (headSpec ws_mc_X12_fresh ({ frames := 2, cells := 0, slots := 0, locals := 48 } : Room)).room s m [.ref (q 0)].toArray below meth c H locs 0 0 Q (F0 m 73 ls []) := by
                intro A35 H locs ls hI hj34 hP hS hl
                refine lv_iinc (v := iI (z15 + 1)) (lv' := [(1, .int (iI (z15 + 1))), (0, .ref (q 0))]) hx hb dX12_fresh_73 hl (k := 0) rfl (i_inc (by omega)) (by decide) rfl (fun ls hl => ?_)
                refine lv_goto (tgt := 39) hx hb dX12_fresh_76 (by decide) ?_
                exact ih19 _ (by omega) (z15 + 1) _ _ _ _ (by omega) (by omega) rfl hI (fr.trans (fr.trans (fr.rf) hj16 rfl rfl) hj34 rfl rfl) hP hS (lv_sub hl [0, 1] rfl)
              refine lv_icmp_eq (tgt := 73) hx hb dX12_fresh_61 (by decide) (fun c29 => ?_) (fun c29 => ?_)
              · have c29 : z26 = (-1) := (i_eq ⟨by omega, by omega⟩ ⟨by decide, by decide⟩).mp c29
                exact J73_30 _ _ _ _ hI (fr.rf) hP hS (lv_sub hl [0, 1] rfl)
              · have c29 : ¬ z26 = (-1) := mt (i_eq ⟨by omega, by omega⟩ ⟨by decide, by decide⟩).mpr c29
                refine lv_aload_n hx hb dX12_fresh_64 rfl (lv_at hl 1 rfl) ?_
                refine lv_iconst (v := iI 2) hx hb dX12_fresh_65 (by decide +kernel) ?_
                refine lv_aload_n hx hb dX12_fresh_66 rfl (lv_at hl 1 rfl) ?_
                have e_A14_4 : A14 0 4 = (A 0 4) := (hj13.2 4 rfl)
                have e_A17_4 : A17 0 4 = (A 0 4) := (hj16.2 4 rfl).trans e_A14_4
                refine va_get (D := (dC, dI)) (ci := 12) (v := .int (iI (A17 0 4))) (C := RX12) (T := TX12) (N := 85) hx hb hts hiX12 hown hK hP 0 wm0 rfl 4 (by decide) (hts _ (List.mem_of_getElem? (i := 35) rfl)) (fun _ h9 => h9) rfl dX12_fresh_67 ?_
                refine tp_i (y := iI (A 0 4)) (congrArg iI e_A17_4) ?_
                have r_A_0_4 : (0 : Int) ≤ (A 0 4) ∧ (A 0 4) ≤ 1600 := by rw [← e_A17_4]; exact hI 0 4
                refine x_callv (As := [.int (iI 2), .int (iI (A 0 4))]) (rest := []) ⟨hx, hb, hml, hown, hts⟩ (mc_X12_blame l dC dI cB cI cJ cZ cQ q _ 2 (A 0 4) hI ⟨by omega, by omega⟩ ⟨by omega, by omega⟩) (cwV 2 hts g_mc_X12_fresh_3 rfl rfl rfl (by decide +kernel) ⟨Nat.le_of_ble_eq_true rfl, Nat.le_of_ble_eq_true rfl⟩) hK hDD hA0 hP hS 0 12 wm0 rfl rfl hl.1 (Nat.le_of_ble_eq_true rfl) dX12_fresh_70 (fun A31 H locs hw32 hP hS => ?_)
                obtain ⟨hI, hf33, hw32⟩ := hw32
                have r_A31_0_8 : (0 : Int) ≤ (A31 0 8) ∧ (A31 0 8) ≤ 5 := hI 0 8
                exact J73_30 _ _ _ _ hI (fr.trans (fr.rf) hf33 rfl rfl) hP hS (lv_sub hl [0, 1] rfl)
      exact L39_18 _ 0 _ _ _ _ (by omega) (by omega) rfl hI (fr.rf) hP hS (lv_sub hl [0, 1] rfl)
    have J28_3 : ∀ (H : Heap) (locs : List Loc) (ls : Array Slot), va_P (dC, dI) vwCl (WM cI cJ cZ q A) H → va_S AS s.heap H locs → lv_has ls 3 [(0, .ref (q 0))] → W p l e (headSpec ws_mc_X12_fresh ({ frames := 2, cells := 0, slots := 0, locals := 48 } : Room)).room s m [.ref (q 0)].toArray below meth c H locs 0 0 Q (F0 m 28 ls []) := by
      intro H locs ls hP hS hl
      refine lv_aload_n hx hb dX12_fresh_28 rfl (lv_at hl 0 rfl) ?_
      refine lv_iconst (v := iI 1) hx hb dX12_fresh_29 (by decide +kernel) ?_
      refine lv_aload_n hx hb dX12_fresh_30 rfl (lv_at hl 0 rfl) ?_
      refine va_get (D := (dC, dI)) (ci := 12) (v := .int (iI (A 0 4))) (C := RX12) (T := TX12) (N := 85) hx hb hts hiX12 hown hK hP 0 wm0 rfl 4 (by decide) (hts _ (List.mem_of_getElem? (i := 35) rfl)) (fun _ h9 => h9) rfl dX12_fresh_31 ?_
      have r_A_0_4 : (0 : Int) ≤ (A 0 4) ∧ (A 0 4) ≤ 1600 := hI 0 4
      refine x_callv (As := [.int (iI 1), .int (iI (A 0 4))]) (rest := []) ⟨hx, hb, hml, hown, hts⟩ (mc_X12_blame l dC dI cB cI cJ cZ cQ q _ 1 (A 0 4) hI ⟨by omega, by omega⟩ ⟨by omega, by omega⟩) (cwV 2 hts g_mc_X12_fresh_1 rfl rfl rfl (by decide +kernel) ⟨Nat.le_of_ble_eq_true rfl, Nat.le_of_ble_eq_true rfl⟩) hK hDD hA0 hP hS 0 12 wm0 rfl rfl hl.1 (Nat.le_of_ble_eq_true rfl) dX12_fresh_34 (fun A10 H locs hw11 hP hS => ?_)
      obtain ⟨hI, hf12, hw11⟩ := hw11
      have r_A10_0_8 : (0 : Int) ≤ (A10 0 8) ∧ (A10 0 8) ≤ 5 := hI 0 8
      exact J37_4 _ _ _ _ hI (fr.trans (fr.rf) hf12 rfl rfl) hP hS (lv_sub hl [0] rfl)
    refine lv_icmp_ne (tgt := 28) hx hb dX12_fresh_14 (by decide) (fun c2 => ?_) (fun c2 => ?_)
    · have c2 : ¬ (A 0 3) = 1 := mt (i_eq ⟨by omega, by omega⟩ ⟨by decide, by decide⟩).mpr c2
      exact J28_3 _ _ _ hP hS (lv_sub hl [0] rfl)
    · have c2 : (A 0 3) = 1 := (i_eq ⟨by omega, by omega⟩ ⟨by decide, by decide⟩).mp c2
      refine lv_aload_n hx hb dX12_fresh_17 rfl (lv_at hl 0 rfl) ?_
      refine lv_aload_n hx hb dX12_fresh_18 rfl (lv_at hl 0 rfl) ?_
      refine va_get (D := (dC, dI)) (ci := 12) (v := .long (jI (A 0 7))) (C := RX12) (T := TX12) (N := 85) hx hb hts hiX12 hown hK hP 0 wm0 rfl 7 (by decide) (hts _ (List.mem_of_getElem? (i := 3) rfl)) (fun _ h9 => h9) rfl dX12_fresh_19 ?_
      have r_A_0_7 : (-9223372036854775808 : Int) ≤ (A 0 7) ∧ (A 0 7) ≤ 9223372036854775807 := hI 0 7
      refine x_calli (As := [.long (jI (A 0 7))]) (rest := []) ⟨hx, hb, hml, hown, hts⟩ (mc_X12_isOwn l dC dI cB cI cJ cZ cQ q _ (A 0 7) hI ⟨by omega, by omega⟩) (cwV 1 hts g_mc_X12_fresh_0 rfl rfl rfl (by decide +kernel) ⟨Nat.le_of_ble_eq_true rfl, Nat.le_of_ble_eq_true rfl⟩) hK hDD hA0 hP hS 0 12 wm0 rfl rfl hl.1 (Nat.le_of_ble_eq_true rfl) dX12_fresh_22 (fun z5 A6 H locs hw7 hP hS => ?_)
      obtain ⟨rfl, hw7⟩ := hw7
      refine lv_if_eq (tgt := 37) hx hb dX12_fresh_25 (by decide) (fun c8 => ?_) (fun c8 => ?_)
      · have c8 : z5 = 0 := (i_eq0 ⟨by omega, by omega⟩).mp c8
        exact J37_4 _ _ _ _ hI (fr.rf) hP hS (lv_sub hl [0] rfl)
      · have c8 : ¬ z5 = 0 := mt (i_eq0 ⟨by omega, by omega⟩).mpr c8
        exact J28_3 _ _ _ hP hS (lv_sub hl [0] rfl)
  · have c1 : ¬ (A 0 8) ≤ 0 := mt (i_le0 ⟨by omega, by omega⟩).mpr c1
    refine lv_lconst (v := jI 0) hx hb dX12_fresh_7 (by decide +kernel) ?_
    exact RET 0 _ _ _ _ _ ⟨hI, fr.rf, by omega⟩ hP hS dX12_fresh_8

def ws_mc_X12_asked : List Cond := .code yX12_asked cX12_asked 3 (some .int) :: ([.fieldLink RX12 36 "StackKeysModel" "faultKind" "I", .fieldLink RX12 20 "StackKeysModel" "sign" "I", .fieldLink RX12 32 "StackKeysModel" "word" "J", .methodLink RX12 387 yX12_isOwn, .instanceMethod yX12_isOwn, .selects RX12 yX12_isOwn yX12_isOwn, .initialized RX12, .code yX12_isOwn cX12_isOwn 3 (some .boolean), .constantLong RX12 296 (482854658917), .constantLong RX12 298 (1685024626), .constantLong RX12 300 (6451064), .constantLong RX12 302 (24948), .constantLong RX12 304 (7038329), .constantLong RX12 306 (26990), .constantLong RX12 308 (123581014175598), .constantLong RX12 310 (6840691), .constantLong RX12 312 (1936225652), .constantLong RX12 314 (25209), .constantLong RX12 316 (1819243380), .constantLong RX12 318 (499967946343), .constantLong RX12 320 (512735736947), .constantLong RX12 322 (1836413812), .constantLong RX12 324 (6447474), .constantLong RX12 326 (2003330414), .constantLong RX12 328 (28530), .constantLong RX12 330 (6385252), .constantLong RX12 332 (7237492), .constantLong RX12 334 (6384748), .constantLong RX12 336 (7825519), .constantLong RX12 338 (1936748404), .constantLong RX12 340 (1801812339), .constantLong RX12 342 (109317377451364), .constantLong RX12 344 (7170414), .constantLong RX12 346 (7168376), .fieldLink RX12 23 "StackKeysModel" "signAt" "I", .methodLink RX12 286 yX12_blame, .instanceMethod yX12_blame, .selects RX12 yX12_blame yX12_blame, .code yX12_blame cX12_blame 3 none, .fieldLink RX12 39 "StackKeysModel" "faultPlace" "I", .methodLink RX12 390 yX12_named, .instanceMethod yX12_named, .selects RX12 yX12_named yX12_named, .code yX12_named cX12_named 6 (some .int), .fieldLink RX12 104 "StackKeysModel" "things" "[I", .fieldLink RX12 155 "StackKeysModel" "in" "I", .fieldLink RX12 95 "StackKeysModel" "persons" "[I", .fieldLink RX12 80 "StackKeysModel" "keys" "[I", .fieldLink RX12 58 "StackKeysModel" "doors" "[I", .fieldLink RX12 51 "StackKeysModel" "places" "[I", .methodLink RX12 348 yX12_nameOf, .instanceMethod yX12_nameOf, .selects RX12 yX12_nameOf yX12_nameOf, .code yX12_nameOf cX12_nameOf 4 (some .long), .fieldLink RX12 107 "StackKeysModel" "thingName" "[J", .fieldLink RX12 54 "StackKeysModel" "placeName" "[J", .fieldLink RX12 61 "StackKeysModel" "doorName" "[J", .fieldLink RX12 83 "StackKeysModel" "keyName" "[J", .fieldLink RX12 98 "StackKeysModel" "personName" "[J", .methodLink RX12 293 yX12_ahead, .instanceMethod yX12_ahead, .selects RX12 yX12_ahead yX12_ahead, .code yX12_ahead cX12_ahead 6 none, .fieldLink RX12 26 "StackKeysModel" "signEnd" "I", .fieldLink RX12 17 "StackKeysModel" "size" "I", .fieldLink RX12 7 "StackKeysModel" "tape" "[I", .methodLink RX12 279 yX12_isLetter, .static yX12_isLetter, .code yX12_isLetter cX12_isLetter 1 (some .boolean), .methodLink RX12 283 yX12_isDigit, .static yX12_isDigit, .code yX12_isDigit cX12_isDigit 1 (some .boolean), .fieldLink RX12 29 "StackKeysModel" "value" "I"] ++ wsX120)
set_option maxRecDepth 20000 in
theorem g_mc_X12_asked_0 : GoodIn ws_mc_X12_asked (wsV RX12 387 RX12 yX12_isOwn ws_mc_X12_isOwn) := goodIn_r _ [4, 5, 6, 7, 8, 9, 10, 11, 12, 13, 14, 15, 16, 17, 18, 19, 20, 21, 22, 23, 24, 25, 26, 27, 28, 29, 30, 31, 32, 33, 34] (by decide +kernel) (by decide +kernel)
set_option maxRecDepth 20000 in
theorem g_mc_X12_asked_1 : GoodIn ws_mc_X12_asked (wsV RX12 286 RX12 yX12_blame ws_mc_X12_blame) := goodIn_r _ [36, 37, 38, 7, 39, 1, 40, 74, 75, 76, 77, 78, 79, 80, 81, 82, 83, 84, 85, 86, 87, 88, 89, 90, 91, 92, 93, 94, 95, 96, 97, 98, 99, 100, 101, 102, 103, 104, 105, 106, 107, 108, 109, 110, 111, 112, 113, 114, 115, 116, 117, 118, 119, 120, 121, 122, 123, 124, 125, 126, 127, 128, 129, 130, 131, 132, 133, 134, 135, 136, 137, 138, 139, 140, 141, 142, 143, 144, 145, 146, 147, 148, 149, 150, 151, 152, 153, 154, 155, 156, 157, 158] (by decide +kernel) (by decide +kernel)
set_option maxRecDepth 20000 in
theorem g_mc_X12_asked_2 : GoodIn ws_mc_X12_asked (wsV RX12 390 RX12 yX12_named ws_mc_X12_named) := goodIn_r _ [41, 42, 43, 7, 44, 45, 46, 47, 48, 49, 50, 51, 52, 53, 7, 54, 55, 56, 57, 58, 59, 74, 75, 76, 77, 78, 79, 80, 81, 82, 83, 84, 85, 86, 87, 88, 89, 90, 91, 92, 93, 94, 95, 96, 97, 98, 99, 100, 101, 102, 103, 104, 105, 106, 107, 108, 109, 110, 111, 112, 113, 114, 115, 116, 117, 118, 119, 120, 121, 122, 123, 124, 125, 126, 127, 128, 129, 130, 131, 132, 133, 134, 135, 136, 137, 138, 139, 140, 141, 142, 143, 144, 145, 146, 147, 148, 149, 150, 151, 152, 153, 154, 155, 156, 157, 158] (by decide +kernel) (by decide +kernel)
set_option maxRecDepth 20000 in
theorem g_mc_X12_asked_3 : GoodIn ws_mc_X12_asked (wsV RX12 286 RX12 yX12_blame ws_mc_X12_blame) := goodIn_r _ [36, 37, 38, 7, 39, 1, 40, 74, 75, 76, 77, 78, 79, 80, 81, 82, 83, 84, 85, 86, 87, 88, 89, 90, 91, 92, 93, 94, 95, 96, 97, 98, 99, 100, 101, 102, 103, 104, 105, 106, 107, 108, 109, 110, 111, 112, 113, 114, 115, 116, 117, 118, 119, 120, 121, 122, 123, 124, 125, 126, 127, 128, 129, 130, 131, 132, 133, 134, 135, 136, 137, 138, 139, 140, 141, 142, 143, 144, 145, 146, 147, 148, 149, 150, 151, 152, 153, 154, 155, 156, 157, 158] (by decide +kernel) (by decide +kernel)
set_option maxRecDepth 20000 in
theorem g_mc_X12_asked_4 : GoodIn ws_mc_X12_asked (wsV RX12 293 RX12 yX12_ahead ws_mc_X12_ahead) := goodIn_r _ [60, 61, 62, 7, 63, 64, 65, 66, 35, 2, 67, 68, 7, 69, 70, 71, 72, 36, 37, 38, 39, 1, 40, 73, 3, 74, 75, 76, 77, 78, 79, 80, 81, 82, 83, 84, 85, 86, 87, 88, 89, 90, 91, 92, 93, 94, 95, 96, 97, 98, 99, 100, 101, 102, 103, 104, 105, 106, 107, 108, 109, 110, 111, 112, 113, 114, 115, 116, 117, 118, 119, 120, 121, 122, 123, 124, 125, 126, 127, 128, 129, 130, 131, 132, 133, 134, 135, 136, 137, 138, 139, 140, 141, 142, 143, 144, 145, 146, 147, 148, 149, 150, 151, 152, 153, 154, 155, 156, 157, 158] (by decide +kernel) (by decide +kernel)
set_option maxHeartbeats 4000000 in
set_option maxRecDepth 100000 in
theorem mc_X12_asked (l : Launch) (dC : Nat → ClassId) (dI : Nat → Nat → Nat) (cB cI cJ cZ cQ : ClassId) (q : Nat → Nat) (A : St) (x1 : Int) (hI : IM A) (hx1 : (0 : Int) ≤ x1 ∧ x1 ≤ 4) : XMi l yX12_asked ws_mc_X12_asked ({ frames := 2, cells := 0, slots := 0, locals := 48 } : Room) (dC, dI) (tyA cB cI cJ cZ cQ) (WM cI cJ cZ q) A [.ref (q 0), .int (iI x1)] (fun z u => IM u ∧ fr [] [3, 4, 5, 6, 7, 8, 9] A u ∧ (0 ≤ z ∧ z ≤ 9 ∧ (x1 = 0 → z ≤ 7) ∧ (x1 = 2 → z ≤ 3) ∧ (x1 = 3 → z ≤ 2) ∧ (x1 = 4 → z ≤ 3))) := by
  refine x_meti (cc := cX12_asked) (maxL := 3) WM_adr (by decide +kernel) rfl (Nat.le_of_ble_eq_true rfl) (fun p e s m below meth c Q AS ls hx hb hml hown hts hK hDD hA0 hP hS hl RET => ?_)
  have hown : s.vm.findClass RX12 = some m.cls := hown
  have hl : lv_has ls 3 [(0, .ref (q 0)), (1, .int (iI x1))] := hl
  have hiX12 : ∀ w ∈ u_ws RX12 TX12 85, w ∈ ws_mc_X12_asked := fun w h => List.mem_cons_of_mem _ (List.mem_append_right _ h)
  obtain ⟨H, hHe⟩ : ∃ H : Heap, H = s.heap := ⟨_, rfl⟩
  rw [← hHe] at hP
  have hS : va_S AS s.heap H [] := by rw [hHe]; exact hS
  suffices hgo : ∀ locs : List Loc, va_S AS s.heap H locs → W p l e (headSpec ws_mc_X12_asked ({ frames := 2, cells := 0, slots := 0, locals := 48 } : Room)).room s m [.ref (q 0), .int (iI x1)].toArray below meth c H locs 0 0 Q (F0 m 0 ls []) by
    have := hgo [] hS
    rw [hHe] at this
    exact this
  clear hS hHe
  intro locs hS
  refine lv_aload_n hx hb dX12_asked_0 rfl (lv_at hl 0 rfl) ?_
  refine va_get (D := (dC, dI)) (ci := 12) (v := .int (iI (A 0 8))) (C := RX12) (T := TX12) (N := 85) hx hb hts hiX12 hown hK hP 0 wm0 rfl 8 (by decide) (hts _ (List.mem_of_getElem? (i := 1) rfl)) (fun _ h9 => h9) rfl dX12_asked_1 ?_
  have r_A_0_8 : (0 : Int) ≤ (A 0 8) ∧ (A 0 8) ≤ 5 := hI 0 8
  refine lv_if_le (tgt := 9) hx hb dX12_asked_4 (by decide) (fun c1 => ?_) (fun c1 => ?_)
  · have c1 : (A 0 8) ≤ 0 := (i_le0 ⟨by omega, by omega⟩).mp c1
    refine lv_aload_n hx hb dX12_asked_9 rfl (lv_at hl 0 rfl) ?_
    refine va_get (D := (dC, dI)) (ci := 12) (v := .int (iI (A 0 3))) (C := RX12) (T := TX12) (N := 85) hx hb hts hiX12 hown hK hP 0 wm0 rfl 3 (by decide) (hts _ (List.mem_of_getElem? (i := 2) rfl)) (fun _ h9 => h9) rfl dX12_asked_10 ?_
    have r_A_0_3 : (0 : Int) ≤ (A 0 3) ∧ (A 0 3) ≤ 3 := hI 0 3
    refine lv_iconst (v := iI 1) hx hb dX12_asked_13 (by decide +kernel) ?_
    have J37_4 : ∀ (A14 : St) (H : Heap) (locs : List Loc) (ls : Array Slot), IM A14 → fr [] [8, 9] A A14 → va_P (dC, dI) vwCl (WM cI cJ cZ q A14) H → va_S AS s.heap H locs → lv_has ls 3 [(0, .ref (q 0)), (1, .int (iI x1))] → W p l e (headSpec ws_mc_X12_asked ({ frames := 2, cells := 0, slots := 0, locals := 48 } : Room)).room s m [.ref (q 0), .int (iI x1)].toArray below meth c H locs 0 0 Q (F0 m 37 ls []) := by
      intro A14 H locs ls hI hj13 hP hS hl
      refine lv_aload_n hx hb dX12_asked_37 rfl (lv_at hl 0 rfl) ?_
      refine va_get (D := (dC, dI)) (ci := 12) (v := .int (iI (A14 0 8))) (C := RX12) (T := TX12) (N := 85) hx hb hts hiX12 hown hK hP 0 wm0 rfl 8 (by decide) (hts _ (List.mem_of_getElem? (i := 1) rfl)) (fun _ h9 => h9) rfl dX12_asked_38 ?_
      have r_A14_0_8 : (0 : Int) ≤ (A14 0 8) ∧ (A14 0 8) ≤ 5 := hI 0 8
      have J57_16 : ∀ (z20 : Int) (H : Heap) (locs : List Loc) (ls : Array Slot), (-1 ≤ z20 ∧ z20 ≤ 9) → ((x1 = 0 → z20 ≤ 7) ∧ (x1 = 2 → z20 ≤ 3) ∧ (x1 = 3 → z20 ≤ 2) ∧ (x1 = 4 → z20 ≤ 3)) → va_P (dC, dI) vwCl (WM cI cJ cZ q A14) H → va_S AS s.heap H locs → lv_has ls 3 [(0, .ref (q 0)), (1, .int (iI x1))] → W p l e (headSpec ws_mc_X12_asked ({ frames := 2, cells := 0, slots := 0, locals := 48 } : Room)).room s m [.ref (q 0), .int (iI x1)].toArray below meth c H locs 0 0 Q (F0 m 57 ls [.int (iI z20)]) := by
        intro z20 H locs ls f22 f23 hP hS hl
        refine lv_istore_n (lv' := [(2, .int (iI z20)), (0, .ref (q 0)), (1, .int (iI x1))]) hx hb dX12_asked_57 rfl hl (by decide) rfl (fun ls hl => ?_)
        refine lv_aload_n hx hb dX12_asked_58 rfl (lv_at hl 1 rfl) ?_
        refine va_get (D := (dC, dI)) (ci := 12) (v := .int (iI (A14 0 8))) (C := RX12) (T := TX12) (N := 85) hx hb hts hiX12 hown hK hP 0 wm0 rfl 8 (by decide) (hts _ (List.mem_of_getElem? (i := 1) rfl)) (fun _ h9 => h9) rfl dX12_asked_59 ?_
        have J79_25 : ∀ (A31 : St) (H : Heap) (locs : List Loc) (ls : Array Slot), ((A31 0 8) = 0 → 0 ≤ z20) → IM A31 → fr [] [8, 9] A14 A31 → va_P (dC, dI) vwCl (WM cI cJ cZ q A31) H → va_S AS s.heap H locs → lv_has ls 3 [(2, .int (iI z20)), (0, .ref (q 0)), (1, .int (iI x1))] → W p l e (headSpec ws_mc_X12_asked ({ frames := 2, cells := 0, slots := 0, locals := 48 } : Room)).room s m [.ref (q 0), .int (iI x1)].toArray below meth c H locs 0 0 Q (F0 m 79 ls []) := by
          intro A31 H locs ls f32 hI hj30 hP hS hl
          refine lv_aload_n hx hb dX12_asked_79 rfl (lv_at hl 1 rfl) ?_
          refine va_get (D := (dC, dI)) (ci := 12) (v := .int (iI (A31 0 8))) (C := RX12) (T := TX12) (N := 85) hx hb hts hiX12 hown hK hP 0 wm0 rfl 8 (by decide) (hts _ (List.mem_of_getElem? (i := 1) rfl)) (fun _ h9 => h9) rfl dX12_asked_80 ?_
          have r_A31_0_8 : (0 : Int) ≤ (A31 0 8) ∧ (A31 0 8) ≤ 5 := hI 0 8
          have J90_34 : ∀ (A39 : St) (H : Heap) (locs : List Loc) (ls : Array Slot), ((A39 0 8) = 0 → 0 ≤ z20) → IM A39 → fr [] [3, 4, 5, 6, 7, 8, 9] A31 A39 → va_P (dC, dI) vwCl (WM cI cJ cZ q A39) H → va_S AS s.heap H locs → lv_has ls 3 [(2, .int (iI z20)), (0, .ref (q 0)), (1, .int (iI x1))] → W p l e (headSpec ws_mc_X12_asked ({ frames := 2, cells := 0, slots := 0, locals := 48 } : Room)).room s m [.ref (q 0), .int (iI x1)].toArray below meth c H locs 0 0 Q (F0 m 90 ls []) := by
            intro A39 H locs ls f40 hI hj38 hP hS hl
            refine lv_aload_n hx hb dX12_asked_90 rfl (lv_at hl 1 rfl) ?_
            refine va_get (D := (dC, dI)) (ci := 12) (v := .int (iI (A39 0 8))) (C := RX12) (T := TX12) (N := 85) hx hb hts hiX12 hown hK hP 0 wm0 rfl 8 (by decide) (hts _ (List.mem_of_getElem? (i := 1) rfl)) (fun _ h9 => h9) rfl dX12_asked_91 ?_
            have r_A39_0_8 : (0 : Int) ≤ (A39 0 8) ∧ (A39 0 8) ≤ 5 := hI 0 8
            refine lv_if_le (tgt := 101) hx hb dX12_asked_94 (by decide) (fun c41 => ?_) (fun c41 => ?_)
            · have c41 : (A39 0 8) ≤ 0 := (i_le0 ⟨by omega, by omega⟩).mp c41
              refine lv_iload_n hx hb dX12_asked_101 rfl (lv_at hl 0 rfl) ?_
              exact RET z20 _ _ _ _ _ ⟨hI, fr.trans (fr.trans (fr.trans (fr.rf) hj13 rfl rfl) hj30 rfl rfl) hj38 rfl rfl, by omega⟩ hP hS dX12_asked_102
            · have c41 : ¬ (A39 0 8) ≤ 0 := mt (i_le0 ⟨by omega, by omega⟩).mpr c41
              refine lv_iconst (v := iI 0) hx hb dX12_asked_97 (by decide +kernel) ?_
              refine lv_goto (tgt := 102) hx hb dX12_asked_98 (by decide) ?_
              exact RET 0 _ _ _ _ _ ⟨hI, fr.trans (fr.trans (fr.trans (fr.rf) hj13 rfl rfl) hj30 rfl rfl) hj38 rfl rfl, by omega⟩ hP hS dX12_asked_102
          refine lv_if_ne (tgt := 90) hx hb dX12_asked_83 (by decide) (fun c33 => ?_) (fun c33 => ?_)
          · have c33 : ¬ (A31 0 8) = 0 := mt (i_eq0 ⟨by omega, by omega⟩).mpr c33
            exact J90_34 _ _ _ _ (by omega) hI (fr.rf) hP hS (lv_sub hl [0, 1, 2] rfl)
          · have c33 : (A31 0 8) = 0 := (i_eq0 ⟨by omega, by omega⟩).mp c33
            refine lv_aload_n hx hb dX12_asked_86 rfl (lv_at hl 1 rfl) ?_
            refine x_callv (As := []) (rest := []) ⟨hx, hb, hml, hown, hts⟩ (mc_X12_ahead l dC dI cB cI cJ cZ cQ q _ hI) (cwV 0 hts g_mc_X12_asked_4 rfl rfl rfl (by decide +kernel) ⟨Nat.le_of_ble_eq_true rfl, Nat.le_of_ble_eq_true rfl⟩) hK hDD hA0 hP hS 0 12 wm0 rfl rfl hl.1 (Nat.le_of_ble_eq_true rfl) dX12_asked_87 (fun A35 H locs hw36 hP hS => ?_)
            obtain ⟨hI, hf37, hw36⟩ := hw36
            clear hw36
            have r_A35_0_8 : (0 : Int) ≤ (A35 0 8) ∧ (A35 0 8) ≤ 5 := hI 0 8
            exact J90_34 _ _ _ _ (by omega) hI (fr.trans (fr.rf) hf37 rfl rfl) hP hS (lv_sub hl [0, 1, 2] rfl)
        refine lv_if_ne (tgt := 79) hx hb dX12_asked_62 (by decide) (fun c24 => ?_) (fun c24 => ?_)
        · have c24 : ¬ (A14 0 8) = 0 := mt (i_eq0 ⟨by omega, by omega⟩).mpr c24
          exact J79_25 _ _ _ _ (by omega) hI (fr.rf) hP hS (lv_sub hl [0, 1, 2] rfl)
        · have c24 : (A14 0 8) = 0 := (i_eq0 ⟨by omega, by omega⟩).mp c24
          refine lv_iload_n hx hb dX12_asked_65 rfl (lv_at hl 0 rfl) ?_
          refine lv_iconst (v := iI (-1)) hx hb dX12_asked_66 (by decide +kernel) ?_
          refine lv_icmp_ne (tgt := 79) hx hb dX12_asked_67 (by decide) (fun c26 => ?_) (fun c26 => ?_)
          · have c26 : ¬ z20 = (-1) := mt (i_eq ⟨by omega, by omega⟩ ⟨by decide, by decide⟩).mpr c26
            exact J79_25 _ _ _ _ (by omega) hI (fr.rf) hP hS (lv_sub hl [0, 1, 2] rfl)
          · have c26 : z20 = (-1) := (i_eq ⟨by omega, by omega⟩ ⟨by decide, by decide⟩).mp c26
            refine lv_aload_n hx hb dX12_asked_70 rfl (lv_at hl 1 rfl) ?_
            refine lv_iconst (v := iI 3) hx hb dX12_asked_71 (by decide +kernel) ?_
            refine lv_aload_n hx hb dX12_asked_72 rfl (lv_at hl 1 rfl) ?_
            have e_A14_4 : A14 0 4 = (A 0 4) := (hj13.2 4 rfl)
            refine va_get (D := (dC, dI)) (ci := 12) (v := .int (iI (A14 0 4))) (C := RX12) (T := TX12) (N := 85) hx hb hts hiX12 hown hK hP 0 wm0 rfl 4 (by decide) (hts _ (List.mem_of_getElem? (i := 35) rfl)) (fun _ h9 => h9) rfl dX12_asked_73 ?_
            refine tp_i (y := iI (A 0 4)) (congrArg iI e_A14_4) ?_
            have r_A_0_4 : (0 : Int) ≤ (A 0 4) ∧ (A 0 4) ≤ 1600 := by rw [← e_A14_4]; exact hI 0 4
            refine x_callv (As := [.int (iI 3), .int (iI (A 0 4))]) (rest := []) ⟨hx, hb, hml, hown, hts⟩ (mc_X12_blame l dC dI cB cI cJ cZ cQ q _ 3 (A 0 4) hI ⟨by omega, by omega⟩ ⟨by omega, by omega⟩) (cwV 2 hts g_mc_X12_asked_3 rfl rfl rfl (by decide +kernel) ⟨Nat.le_of_ble_eq_true rfl, Nat.le_of_ble_eq_true rfl⟩) hK hDD hA0 hP hS 0 12 wm0 rfl rfl hl.1 (Nat.le_of_ble_eq_true rfl) dX12_asked_76 (fun A27 H locs hw28 hP hS => ?_)
            obtain ⟨hI, hf29, hw28⟩ := hw28
            have r_A27_0_8 : (0 : Int) ≤ (A27 0 8) ∧ (A27 0 8) ≤ 5 := hI 0 8
            exact J79_25 _ _ _ _ (by omega) hI (fr.trans (fr.rf) hf29 rfl rfl) hP hS (lv_sub hl [0, 1, 2] rfl)
      refine lv_if_le (tgt := 48) hx hb dX12_asked_41 (by decide) (fun c15 => ?_) (fun c15 => ?_)
      · have c15 : (A14 0 8) ≤ 0 := (i_le0 ⟨by omega, by omega⟩).mp c15
        refine lv_aload_n hx hb dX12_asked_48 rfl (lv_at hl 0 rfl) ?_
        refine lv_iload_n hx hb dX12_asked_49 rfl (lv_at hl 1 rfl) ?_
        refine lv_aload_n hx hb dX12_asked_50 rfl (lv_at hl 0 rfl) ?_
        have e_A14_7 : A14 0 7 = (A 0 7) := (hj13.2 7 rfl)
        refine va_get (D := (dC, dI)) (ci := 12) (v := .long (jI (A14 0 7))) (C := RX12) (T := TX12) (N := 85) hx hb hts hiX12 hown hK hP 0 wm0 rfl 7 (by decide) (hts _ (List.mem_of_getElem? (i := 3) rfl)) (fun _ h9 => h9) rfl dX12_asked_51 ?_
        refine tp_l (y := jI (A 0 7)) (congrArg jI e_A14_7) ?_
        have r_A_0_7 : (-9223372036854775808 : Int) ≤ (A 0 7) ∧ (A 0 7) ≤ 9223372036854775807 := by rw [← e_A14_7]; exact hI 0 7
        refine x_calli (As := [.int (iI x1), .long (jI (A 0 7))]) (rest := []) ⟨hx, hb, hml, hown, hts⟩ (mc_X12_named l dC dI cB cI cJ cZ cQ q _ x1 (A 0 7) hI ⟨by omega, by omega⟩ ⟨by omega, by omega⟩) (cwV 2 hts g_mc_X12_asked_2 rfl rfl rfl (by decide +kernel) ⟨Nat.le_of_ble_eq_true rfl, Nat.le_of_ble_eq_true rfl⟩) hK hDD hA0 hP hS 0 12 wm0 rfl rfl hl.1 (Nat.le_of_ble_eq_true rfl) dX12_asked_54 (fun z17 A18 H locs hw19 hP hS => ?_)
        obtain ⟨rfl, hw19⟩ := hw19
        exact J57_16 z17 _ _ _ (by omega) (by omega) hP hS (lv_sub hl [0, 1] rfl)
      · have c15 : ¬ (A14 0 8) ≤ 0 := mt (i_le0 ⟨by omega, by omega⟩).mpr c15
        refine lv_iconst (v := iI 0) hx hb dX12_asked_44 (by decide +kernel) ?_
        refine lv_goto (tgt := 57) hx hb dX12_asked_45 (by decide) ?_
        exact J57_16 0 _ _ _ (by omega) (by omega) hP hS (lv_sub hl [0, 1] rfl)
    have J28_3 : ∀ (H : Heap) (locs : List Loc) (ls : Array Slot), va_P (dC, dI) vwCl (WM cI cJ cZ q A) H → va_S AS s.heap H locs → lv_has ls 3 [(0, .ref (q 0)), (1, .int (iI x1))] → W p l e (headSpec ws_mc_X12_asked ({ frames := 2, cells := 0, slots := 0, locals := 48 } : Room)).room s m [.ref (q 0), .int (iI x1)].toArray below meth c H locs 0 0 Q (F0 m 28 ls []) := by
      intro H locs ls hP hS hl
      refine lv_aload_n hx hb dX12_asked_28 rfl (lv_at hl 0 rfl) ?_
      refine lv_iconst (v := iI 1) hx hb dX12_asked_29 (by decide +kernel) ?_
      refine lv_aload_n hx hb dX12_asked_30 rfl (lv_at hl 0 rfl) ?_
      refine va_get (D := (dC, dI)) (ci := 12) (v := .int (iI (A 0 4))) (C := RX12) (T := TX12) (N := 85) hx hb hts hiX12 hown hK hP 0 wm0 rfl 4 (by decide) (hts _ (List.mem_of_getElem? (i := 35) rfl)) (fun _ h9 => h9) rfl dX12_asked_31 ?_
      have r_A_0_4 : (0 : Int) ≤ (A 0 4) ∧ (A 0 4) ≤ 1600 := hI 0 4
      refine x_callv (As := [.int (iI 1), .int (iI (A 0 4))]) (rest := []) ⟨hx, hb, hml, hown, hts⟩ (mc_X12_blame l dC dI cB cI cJ cZ cQ q _ 1 (A 0 4) hI ⟨by omega, by omega⟩ ⟨by omega, by omega⟩) (cwV 2 hts g_mc_X12_asked_1 rfl rfl rfl (by decide +kernel) ⟨Nat.le_of_ble_eq_true rfl, Nat.le_of_ble_eq_true rfl⟩) hK hDD hA0 hP hS 0 12 wm0 rfl rfl hl.1 (Nat.le_of_ble_eq_true rfl) dX12_asked_34 (fun A10 H locs hw11 hP hS => ?_)
      obtain ⟨hI, hf12, hw11⟩ := hw11
      have r_A10_0_8 : (0 : Int) ≤ (A10 0 8) ∧ (A10 0 8) ≤ 5 := hI 0 8
      exact J37_4 _ _ _ _ hI (fr.trans (fr.rf) hf12 rfl rfl) hP hS (lv_sub hl [0, 1] rfl)
    refine lv_icmp_ne (tgt := 28) hx hb dX12_asked_14 (by decide) (fun c2 => ?_) (fun c2 => ?_)
    · have c2 : ¬ (A 0 3) = 1 := mt (i_eq ⟨by omega, by omega⟩ ⟨by decide, by decide⟩).mpr c2
      exact J28_3 _ _ _ hP hS (lv_sub hl [0, 1] rfl)
    · have c2 : (A 0 3) = 1 := (i_eq ⟨by omega, by omega⟩ ⟨by decide, by decide⟩).mp c2
      refine lv_aload_n hx hb dX12_asked_17 rfl (lv_at hl 0 rfl) ?_
      refine lv_aload_n hx hb dX12_asked_18 rfl (lv_at hl 0 rfl) ?_
      refine va_get (D := (dC, dI)) (ci := 12) (v := .long (jI (A 0 7))) (C := RX12) (T := TX12) (N := 85) hx hb hts hiX12 hown hK hP 0 wm0 rfl 7 (by decide) (hts _ (List.mem_of_getElem? (i := 3) rfl)) (fun _ h9 => h9) rfl dX12_asked_19 ?_
      have r_A_0_7 : (-9223372036854775808 : Int) ≤ (A 0 7) ∧ (A 0 7) ≤ 9223372036854775807 := hI 0 7
      refine x_calli (As := [.long (jI (A 0 7))]) (rest := []) ⟨hx, hb, hml, hown, hts⟩ (mc_X12_isOwn l dC dI cB cI cJ cZ cQ q _ (A 0 7) hI ⟨by omega, by omega⟩) (cwV 1 hts g_mc_X12_asked_0 rfl rfl rfl (by decide +kernel) ⟨Nat.le_of_ble_eq_true rfl, Nat.le_of_ble_eq_true rfl⟩) hK hDD hA0 hP hS 0 12 wm0 rfl rfl hl.1 (Nat.le_of_ble_eq_true rfl) dX12_asked_22 (fun z5 A6 H locs hw7 hP hS => ?_)
      obtain ⟨rfl, hw7⟩ := hw7
      refine lv_if_eq (tgt := 37) hx hb dX12_asked_25 (by decide) (fun c8 => ?_) (fun c8 => ?_)
      · have c8 : z5 = 0 := (i_eq0 ⟨by omega, by omega⟩).mp c8
        exact J37_4 _ _ _ _ hI (fr.rf) hP hS (lv_sub hl [0, 1] rfl)
      · have c8 : ¬ z5 = 0 := mt (i_eq0 ⟨by omega, by omega⟩).mpr c8
        exact J28_3 _ _ _ hP hS (lv_sub hl [0, 1] rfl)
  · have c1 : ¬ (A 0 8) ≤ 0 := mt (i_le0 ⟨by omega, by omega⟩).mpr c1
    refine lv_iconst (v := iI 0) hx hb dX12_asked_7 (by decide +kernel) ?_
    exact RET 0 _ _ _ _ _ ⟨hI, fr.rf, by omega⟩ hP hS dX12_asked_8

def ws_mc_X12_bars : List Cond := .code yX12_bars cX12_bars 3 none :: ([.fieldLink RX12 36 "StackKeysModel" "faultKind" "I", .fieldLink RX12 20 "StackKeysModel" "sign" "I", .fieldLink RX12 32 "StackKeysModel" "word" "J", .methodLink RX12 387 yX12_isOwn, .instanceMethod yX12_isOwn, .selects RX12 yX12_isOwn yX12_isOwn, .initialized RX12, .code yX12_isOwn cX12_isOwn 3 (some .boolean), .constantLong RX12 296 (482854658917), .constantLong RX12 298 (1685024626), .constantLong RX12 300 (6451064), .constantLong RX12 302 (24948), .constantLong RX12 304 (7038329), .constantLong RX12 306 (26990), .constantLong RX12 308 (123581014175598), .constantLong RX12 310 (6840691), .constantLong RX12 312 (1936225652), .constantLong RX12 314 (25209), .constantLong RX12 316 (1819243380), .constantLong RX12 318 (499967946343), .constantLong RX12 320 (512735736947), .constantLong RX12 322 (1836413812), .constantLong RX12 324 (6447474), .constantLong RX12 326 (2003330414), .constantLong RX12 328 (28530), .constantLong RX12 330 (6385252), .constantLong RX12 332 (7237492), .constantLong RX12 334 (6384748), .constantLong RX12 336 (7825519), .constantLong RX12 338 (1936748404), .constantLong RX12 340 (1801812339), .constantLong RX12 342 (109317377451364), .constantLong RX12 344 (7170414), .constantLong RX12 346 (7168376), .methodLink RX12 390 yX12_named, .instanceMethod yX12_named, .selects RX12 yX12_named yX12_named, .code yX12_named cX12_named 6 (some .int), .fieldLink RX12 104 "StackKeysModel" "things" "[I", .fieldLink RX12 155 "StackKeysModel" "in" "I", .fieldLink RX12 95 "StackKeysModel" "persons" "[I", .fieldLink RX12 80 "StackKeysModel" "keys" "[I", .fieldLink RX12 58 "StackKeysModel" "doors" "[I", .fieldLink RX12 51 "StackKeysModel" "places" "[I", .methodLink RX12 348 yX12_nameOf, .instanceMethod yX12_nameOf, .selects RX12 yX12_nameOf yX12_nameOf, .code yX12_nameOf cX12_nameOf 4 (some .long), .fieldLink RX12 107 "StackKeysModel" "thingName" "[J", .fieldLink RX12 54 "StackKeysModel" "placeName" "[J", .fieldLink RX12 61 "StackKeysModel" "doorName" "[J", .fieldLink RX12 83 "StackKeysModel" "keyName" "[J", .fieldLink RX12 98 "StackKeysModel" "personName" "[J", .fieldLink RX12 23 "StackKeysModel" "signAt" "I", .methodLink RX12 286 yX12_blame, .instanceMethod yX12_blame, .selects RX12 yX12_blame yX12_blame, .code yX12_blame cX12_blame 3 none, .fieldLink RX12 39 "StackKeysModel" "faultPlace" "I"] ++ wsX120)
set_option maxRecDepth 20000 in
theorem g_mc_X12_bars_0 : GoodIn ws_mc_X12_bars (wsV RX12 387 RX12 yX12_isOwn ws_mc_X12_isOwn) := goodIn_r _ [4, 5, 6, 7, 8, 9, 10, 11, 12, 13, 14, 15, 16, 17, 18, 19, 20, 21, 22, 23, 24, 25, 26, 27, 28, 29, 30, 31, 32, 33, 34] (by decide +kernel) (by decide +kernel)
set_option maxRecDepth 20000 in
theorem g_mc_X12_bars_1 : GoodIn ws_mc_X12_bars (wsV RX12 390 RX12 yX12_named ws_mc_X12_named) := goodIn_r _ [35, 36, 37, 7, 38, 39, 40, 41, 42, 43, 44, 45, 46, 47, 7, 48, 49, 50, 51, 52, 53, 60, 61, 62, 63, 64, 65, 66, 67, 68, 69, 70, 71, 72, 73, 74, 75, 76, 77, 78, 79, 80, 81, 82, 83, 84, 85, 86, 87, 88, 89, 90, 91, 92, 93, 94, 95, 96, 97, 98, 99, 100, 101, 102, 103, 104, 105, 106, 107, 108, 109, 110, 111, 112, 113, 114, 115, 116, 117, 118, 119, 120, 121, 122, 123, 124, 125, 126, 127, 128, 129, 130, 131, 132, 133, 134, 135, 136, 137, 138, 139, 140, 141, 142, 143, 144] (by decide +kernel) (by decide +kernel)
set_option maxRecDepth 20000 in
theorem g_mc_X12_bars_2 : GoodIn ws_mc_X12_bars (wsV RX12 286 RX12 yX12_blame ws_mc_X12_blame) := goodIn_r _ [55, 56, 57, 7, 58, 1, 59, 60, 61, 62, 63, 64, 65, 66, 67, 68, 69, 70, 71, 72, 73, 74, 75, 76, 77, 78, 79, 80, 81, 82, 83, 84, 85, 86, 87, 88, 89, 90, 91, 92, 93, 94, 95, 96, 97, 98, 99, 100, 101, 102, 103, 104, 105, 106, 107, 108, 109, 110, 111, 112, 113, 114, 115, 116, 117, 118, 119, 120, 121, 122, 123, 124, 125, 126, 127, 128, 129, 130, 131, 132, 133, 134, 135, 136, 137, 138, 139, 140, 141, 142, 143, 144] (by decide +kernel) (by decide +kernel)
set_option maxHeartbeats 4000000 in
set_option maxRecDepth 100000 in
theorem mc_X12_bars (l : Launch) (dC : Nat → ClassId) (dI : Nat → Nat → Nat) (cB cI cJ cZ cQ : ClassId) (q : Nat → Nat) (A : St) (x1 x2 : Int) (hI : IM A) (hx1 : (0 : Int) ≤ x1 ∧ x1 ≤ 4) (hx2 : (-2147483648 : Int) ≤ x2 ∧ x2 ≤ 2147483647) : XMv l yX12_bars ws_mc_X12_bars ({ frames := 2, cells := 0, slots := 0, locals := 48 } : Room) (dC, dI) (tyA cB cI cJ cZ cQ) (WM cI cJ cZ q) A [.ref (q 0), .int (iI x1), .int (iI x2)] (fun u => IM u ∧ fr [] [8, 9] A u ∧ (True)) := by
  refine x_metv (cc := cX12_bars) (maxL := 3) WM_adr (by decide +kernel) rfl (Nat.le_of_ble_eq_true rfl) (fun p e s m below meth c Q AS ls hx hb hml hown hts hK hDD hA0 hP hS hl RET => ?_)
  have hown : s.vm.findClass RX12 = some m.cls := hown
  have hl : lv_has ls 3 [(0, .ref (q 0)), (1, .int (iI x1)), (2, .int (iI x2))] := hl
  have hiX12 : ∀ w ∈ u_ws RX12 TX12 85, w ∈ ws_mc_X12_bars := fun w h => List.mem_cons_of_mem _ (List.mem_append_right _ h)
  obtain ⟨H, hHe⟩ : ∃ H : Heap, H = s.heap := ⟨_, rfl⟩
  rw [← hHe] at hP
  have hS : va_S AS s.heap H [] := by rw [hHe]; exact hS
  suffices hgo : ∀ locs : List Loc, va_S AS s.heap H locs → W p l e (headSpec ws_mc_X12_bars ({ frames := 2, cells := 0, slots := 0, locals := 48 } : Room)).room s m [.ref (q 0), .int (iI x1), .int (iI x2)].toArray below meth c H locs 0 0 Q (F0 m 0 ls []) by
    have := hgo [] hS
    rw [hHe] at this
    exact this
  clear hS hHe
  intro locs hS
  refine lv_aload_n hx hb dX12_bars_0 rfl (lv_at hl 0 rfl) ?_
  refine va_get (D := (dC, dI)) (ci := 12) (v := .int (iI (A 0 8))) (C := RX12) (T := TX12) (N := 85) hx hb hts hiX12 hown hK hP 0 wm0 rfl 8 (by decide) (hts _ (List.mem_of_getElem? (i := 1) rfl)) (fun _ h9 => h9) rfl dX12_bars_1 ?_
  have r_A_0_8 : (0 : Int) ≤ (A 0 8) ∧ (A 0 8) ≤ 5 := hI 0 8
  refine lv_if_ne (tgt := 53) hx hb dX12_bars_4 (by decide) (fun c1 => ?_) (fun c1 => ?_)
  · have c1 : ¬ (A 0 8) = 0 := mt (i_eq0 ⟨by omega, by omega⟩).mpr c1
    exact RET _ _ _ _ _ ⟨hI, fr.rf, trivial⟩ hP hS dX12_bars_53
  · have c1 : (A 0 8) = 0 := (i_eq0 ⟨by omega, by omega⟩).mp c1
    refine lv_aload_n hx hb dX12_bars_7 rfl (lv_at hl 0 rfl) ?_
    refine va_get (D := (dC, dI)) (ci := 12) (v := .int (iI (A 0 3))) (C := RX12) (T := TX12) (N := 85) hx hb hts hiX12 hown hK hP 0 wm0 rfl 3 (by decide) (hts _ (List.mem_of_getElem? (i := 2) rfl)) (fun _ h9 => h9) rfl dX12_bars_8 ?_
    have r_A_0_3 : (0 : Int) ≤ (A 0 3) ∧ (A 0 3) ≤ 3 := hI 0 3
    refine lv_iconst (v := iI 1) hx hb dX12_bars_11 (by decide +kernel) ?_
    refine lv_icmp_ne (tgt := 53) hx hb dX12_bars_12 (by decide) (fun c2 => ?_) (fun c2 => ?_)
    · have c2 : ¬ (A 0 3) = 1 := mt (i_eq ⟨by omega, by omega⟩ ⟨by decide, by decide⟩).mpr c2
      exact RET _ _ _ _ _ ⟨hI, fr.rf, trivial⟩ hP hS dX12_bars_53
    · have c2 : (A 0 3) = 1 := (i_eq ⟨by omega, by omega⟩ ⟨by decide, by decide⟩).mp c2
      refine lv_aload_n hx hb dX12_bars_15 rfl (lv_at hl 0 rfl) ?_
      refine lv_aload_n hx hb dX12_bars_16 rfl (lv_at hl 0 rfl) ?_
      refine va_get (D := (dC, dI)) (ci := 12) (v := .long (jI (A 0 7))) (C := RX12) (T := TX12) (N := 85) hx hb hts hiX12 hown hK hP 0 wm0 rfl 7 (by decide) (hts _ (List.mem_of_getElem? (i := 3) rfl)) (fun _ h9 => h9) rfl dX12_bars_17 ?_
      have r_A_0_7 : (-9223372036854775808 : Int) ≤ (A 0 7) ∧ (A 0 7) ≤ 9223372036854775807 := hI 0 7
      refine x_calli (As := [.long (jI (A 0 7))]) (rest := []) ⟨hx, hb, hml, hown, hts⟩ (mc_X12_isOwn l dC dI cB cI cJ cZ cQ q _ (A 0 7) hI ⟨by omega, by omega⟩) (cwV 1 hts g_mc_X12_bars_0 rfl rfl rfl (by decide +kernel) ⟨Nat.le_of_ble_eq_true rfl, Nat.le_of_ble_eq_true rfl⟩) hK hDD hA0 hP hS 0 12 wm0 rfl rfl hl.1 (Nat.le_of_ble_eq_true rfl) dX12_bars_20 (fun z3 A4 H locs hw5 hP hS => ?_)
      obtain ⟨rfl, hw5⟩ := hw5
      refine lv_if_ne (tgt := 53) hx hb dX12_bars_23 (by decide) (fun c6 => ?_) (fun c6 => ?_)
      · have c6 : ¬ z3 = 0 := mt (i_eq0 ⟨by omega, by omega⟩).mpr c6
        exact RET _ _ _ _ _ ⟨hI, fr.rf, trivial⟩ hP hS dX12_bars_53
      · have c6 : z3 = 0 := (i_eq0 ⟨by omega, by omega⟩).mp c6
        refine lv_iload_n hx hb dX12_bars_26 rfl (lv_at hl 2 rfl) ?_
        refine lv_iconst (v := iI (-1)) hx hb dX12_bars_27 (by decide +kernel) ?_
        refine lv_icmp_eq (tgt := 53) hx hb dX12_bars_28 (by decide) (fun c7 => ?_) (fun c7 => ?_)
        · have c7 : x2 = (-1) := (i_eq ⟨by omega, by omega⟩ ⟨by decide, by decide⟩).mp c7
          exact RET _ _ _ _ _ ⟨hI, fr.rf, trivial⟩ hP hS dX12_bars_53
        · have c7 : ¬ x2 = (-1) := mt (i_eq ⟨by omega, by omega⟩ ⟨by decide, by decide⟩).mpr c7
          refine lv_aload_n hx hb dX12_bars_31 rfl (lv_at hl 0 rfl) ?_
          refine lv_iload_n hx hb dX12_bars_32 rfl (lv_at hl 1 rfl) ?_
          refine lv_aload_n hx hb dX12_bars_33 rfl (lv_at hl 0 rfl) ?_
          refine va_get (D := (dC, dI)) (ci := 12) (v := .long (jI (A 0 7))) (C := RX12) (T := TX12) (N := 85) hx hb hts hiX12 hown hK hP 0 wm0 rfl 7 (by decide) (hts _ (List.mem_of_getElem? (i := 3) rfl)) (fun _ h9 => h9) rfl dX12_bars_34 ?_
          refine x_calli (As := [.int (iI x1), .long (jI (A 0 7))]) (rest := []) ⟨hx, hb, hml, hown, hts⟩ (mc_X12_named l dC dI cB cI cJ cZ cQ q _ x1 (A 0 7) hI ⟨by omega, by omega⟩ ⟨by omega, by omega⟩) (cwV 2 hts g_mc_X12_bars_1 rfl rfl rfl (by decide +kernel) ⟨Nat.le_of_ble_eq_true rfl, Nat.le_of_ble_eq_true rfl⟩) hK hDD hA0 hP hS 0 12 wm0 rfl rfl hl.1 (Nat.le_of_ble_eq_true rfl) dX12_bars_37 (fun z8 A9 H locs hw10 hP hS => ?_)
          obtain ⟨rfl, hw10⟩ := hw10
          refine lv_iload_n hx hb dX12_bars_40 rfl (lv_at hl 2 rfl) ?_
          refine lv_icmp_ne (tgt := 53) hx hb dX12_bars_41 (by decide) (fun c11 => ?_) (fun c11 => ?_)
          · have c11 : ¬ z8 = x2 := mt (i_eq ⟨by omega, by omega⟩ ⟨by omega, by omega⟩).mpr c11
            exact RET _ _ _ _ _ ⟨hI, fr.rf, trivial⟩ hP hS dX12_bars_53
          · have c11 : z8 = x2 := (i_eq ⟨by omega, by omega⟩ ⟨by omega, by omega⟩).mp c11
            refine lv_aload_n hx hb dX12_bars_44 rfl (lv_at hl 0 rfl) ?_
            refine lv_iconst (v := iI 3) hx hb dX12_bars_45 (by decide +kernel) ?_
            refine lv_aload_n hx hb dX12_bars_46 rfl (lv_at hl 0 rfl) ?_
            refine va_get (D := (dC, dI)) (ci := 12) (v := .int (iI (A 0 4))) (C := RX12) (T := TX12) (N := 85) hx hb hts hiX12 hown hK hP 0 wm0 rfl 4 (by decide) (hts _ (List.mem_of_getElem? (i := 54) rfl)) (fun _ h9 => h9) rfl dX12_bars_47 ?_
            have r_A_0_4 : (0 : Int) ≤ (A 0 4) ∧ (A 0 4) ≤ 1600 := hI 0 4
            refine x_callv (As := [.int (iI 3), .int (iI (A 0 4))]) (rest := []) ⟨hx, hb, hml, hown, hts⟩ (mc_X12_blame l dC dI cB cI cJ cZ cQ q _ 3 (A 0 4) hI ⟨by omega, by omega⟩ ⟨by omega, by omega⟩) (cwV 2 hts g_mc_X12_bars_2 rfl rfl rfl (by decide +kernel) ⟨Nat.le_of_ble_eq_true rfl, Nat.le_of_ble_eq_true rfl⟩) hK hDD hA0 hP hS 0 12 wm0 rfl rfl hl.1 (Nat.le_of_ble_eq_true rfl) dX12_bars_50 (fun A12 H locs hw13 hP hS => ?_)
            obtain ⟨hI, hf14, hw13⟩ := hw13
            have r_A12_0_8 : (0 : Int) ≤ (A12 0 8) ∧ (A12 0 8) ≤ 5 := hI 0 8
            exact RET _ _ _ _ _ ⟨hI, fr.trans (fr.rf) hf14 rfl rfl, trivial⟩ hP hS dX12_bars_53

def ws_mc_X12_place : List Cond := .code yX12_place cX12_place 1 none :: ([.fieldLink RX12 51 "StackKeysModel" "places" "[I", .fieldLink RX12 155 "StackKeysModel" "in" "I", .methodLink RX12 394 yX12_counts, .instanceMethod yX12_counts, .selects RX12 yX12_counts yX12_counts, .initialized RX12, .code yX12_counts cX12_counts 2 (some .boolean), .fieldLink RX12 36 "StackKeysModel" "faultKind" "I", .fieldLink RX12 23 "StackKeysModel" "signAt" "I", .methodLink RX12 286 yX12_blame, .instanceMethod yX12_blame, .selects RX12 yX12_blame yX12_blame, .code yX12_blame cX12_blame 3 none, .fieldLink RX12 39 "StackKeysModel" "faultPlace" "I", .methodLink RX12 293 yX12_ahead, .instanceMethod yX12_ahead, .selects RX12 yX12_ahead yX12_ahead, .code yX12_ahead cX12_ahead 6 none, .fieldLink RX12 26 "StackKeysModel" "signEnd" "I", .fieldLink RX12 17 "StackKeysModel" "size" "I", .fieldLink RX12 7 "StackKeysModel" "tape" "[I", .fieldLink RX12 20 "StackKeysModel" "sign" "I", .methodLink RX12 279 yX12_isLetter, .static yX12_isLetter, .code yX12_isLetter cX12_isLetter 1 (some .boolean), .methodLink RX12 283 yX12_isDigit, .static yX12_isDigit, .code yX12_isDigit cX12_isDigit 1 (some .boolean), .fieldLink RX12 29 "StackKeysModel" "value" "I", .fieldLink RX12 32 "StackKeysModel" "word" "J", .fieldLink RX12 54 "StackKeysModel" "placeName" "[J", .methodLink RX12 398 yX12_fresh, .instanceMethod yX12_fresh, .selects RX12 yX12_fresh yX12_fresh, .code yX12_fresh cX12_fresh 3 (some .long), .methodLink RX12 387 yX12_isOwn, .instanceMethod yX12_isOwn, .selects RX12 yX12_isOwn yX12_isOwn, .code yX12_isOwn cX12_isOwn 3 (some .boolean), .constantLong RX12 296 (482854658917), .constantLong RX12 298 (1685024626), .constantLong RX12 300 (6451064), .constantLong RX12 302 (24948), .constantLong RX12 304 (7038329), .constantLong RX12 306 (26990), .constantLong RX12 308 (123581014175598), .constantLong RX12 310 (6840691), .constantLong RX12 312 (1936225652), .constantLong RX12 314 (25209), .constantLong RX12 316 (1819243380), .constantLong RX12 318 (499967946343), .constantLong RX12 320 (512735736947), .constantLong RX12 322 (1836413812), .constantLong RX12 324 (6447474), .constantLong RX12 326 (2003330414), .constantLong RX12 328 (28530), .constantLong RX12 330 (6385252), .constantLong RX12 332 (7237492), .constantLong RX12 334 (6384748), .constantLong RX12 336 (7825519), .constantLong RX12 338 (1936748404), .constantLong RX12 340 (1801812339), .constantLong RX12 342 (109317377451364), .constantLong RX12 344 (7170414), .constantLong RX12 346 (7168376), .methodLink RX12 390 yX12_named, .instanceMethod yX12_named, .selects RX12 yX12_named yX12_named, .code yX12_named cX12_named 6 (some .int), .fieldLink RX12 104 "StackKeysModel" "things" "[I", .fieldLink RX12 95 "StackKeysModel" "persons" "[I", .fieldLink RX12 80 "StackKeysModel" "keys" "[I", .fieldLink RX12 58 "StackKeysModel" "doors" "[I", .methodLink RX12 348 yX12_nameOf, .instanceMethod yX12_nameOf, .selects RX12 yX12_nameOf yX12_nameOf, .code yX12_nameOf cX12_nameOf 4 (some .long), .fieldLink RX12 107 "StackKeysModel" "thingName" "[J", .fieldLink RX12 61 "StackKeysModel" "doorName" "[J", .fieldLink RX12 83 "StackKeysModel" "keyName" "[J", .fieldLink RX12 98 "StackKeysModel" "personName" "[J"] ++ wsX120)
set_option maxRecDepth 20000 in
theorem g_mc_X12_place_0 : GoodIn ws_mc_X12_place (wsV RX12 394 RX12 yX12_counts ws_mc_X12_counts) := goodIn_r _ [3, 4, 5, 6, 7, 8, 9, 10, 11, 12, 6, 13, 14, 15, 16, 17, 18, 19, 20, 21, 22, 23, 24, 25, 26, 27, 28, 29, 30, 82, 83, 84, 85, 86, 87, 88, 89, 90, 91, 92, 93, 94, 95, 96, 97, 98, 99, 100, 101, 102, 103, 104, 105, 106, 107, 108, 109, 110, 111, 112, 113, 114, 115, 116, 117, 118, 119, 120, 121, 122, 123, 124, 125, 126, 127, 128, 129, 130, 131, 132, 133, 134, 135, 136, 137, 138, 139, 140, 141, 142, 143, 144, 145, 146, 147, 148, 149, 150, 151, 152, 153, 154, 155, 156, 157, 158, 159, 160, 161, 162, 163, 164, 165, 166] (by decide +kernel) (by decide +kernel)
set_option maxRecDepth 20000 in
theorem g_mc_X12_place_1 : GoodIn ws_mc_X12_place (wsV RX12 398 RX12 yX12_fresh ws_mc_X12_fresh) := goodIn_r _ [32, 33, 34, 6, 35, 8, 22, 30, 36, 37, 38, 6, 39, 40, 41, 42, 43, 44, 45, 46, 47, 48, 49, 50, 51, 52, 53, 54, 55, 56, 57, 58, 59, 60, 61, 62, 63, 64, 65, 9, 10, 11, 12, 13, 14, 66, 67, 68, 69, 70, 2, 71, 72, 73, 1, 74, 75, 76, 77, 78, 31, 79, 80, 81, 15, 16, 17, 18, 19, 20, 21, 23, 24, 25, 26, 27, 28, 29, 82, 83, 84, 85, 86, 87, 88, 89, 90, 91, 92, 93, 94, 95, 96, 97, 98, 99, 100, 101, 102, 103, 104, 105, 106, 107, 108, 109, 110, 111, 112, 113, 114, 115, 116, 117, 118, 119, 120, 121, 122, 123, 124, 125, 126, 127, 128, 129, 130, 131, 132, 133, 134, 135, 136, 137, 138, 139, 140, 141, 142, 143, 144, 145, 146, 147, 148, 149, 150, 151, 152, 153, 154, 155, 156, 157, 158, 159, 160, 161, 162, 163, 164, 165, 166] (by decide +kernel) (by decide +kernel)
set_option maxHeartbeats 4000000 in
set_option maxRecDepth 100000 in
theorem mc_X12_place (l : Launch) (dC : Nat → ClassId) (dI : Nat → Nat → Nat) (cB cI cJ cZ cQ : ClassId) (q : Nat → Nat) (A : St) (hI : IM A) : XMv l yX12_place ws_mc_X12_place ({ frames := 3, cells := 0, slots := 0, locals := 70 } : Room) (dC, dI) (tyA cB cI cJ cZ cQ) (WM cI cJ cZ q) A [.ref (q 0)] (fun u => IM u ∧ fr [2, 3] [3, 4, 5, 6, 7, 8, 9] A u ∧ (True)) := by
  refine x_metv (cc := cX12_place) (maxL := 1) WM_adr (by decide +kernel) rfl (Nat.le_of_ble_eq_true rfl) (fun p e s m below meth c Q AS ls hx hb hml hown hts hK hDD hA0 hP hS hl RET => ?_)
  have hown : s.vm.findClass RX12 = some m.cls := hown
  have hl : lv_has ls 1 [(0, .ref (q 0))] := hl
  have hiX12 : ∀ w ∈ u_ws RX12 TX12 85, w ∈ ws_mc_X12_place := fun w h => List.mem_cons_of_mem _ (List.mem_append_right _ h)
  obtain ⟨H, hHe⟩ : ∃ H : Heap, H = s.heap := ⟨_, rfl⟩
  rw [← hHe] at hP
  have hS : va_S AS s.heap H [] := by rw [hHe]; exact hS
  suffices hgo : ∀ locs : List Loc, va_S AS s.heap H locs → W p l e (headSpec ws_mc_X12_place ({ frames := 3, cells := 0, slots := 0, locals := 70 } : Room)).room s m [.ref (q 0)].toArray below meth c H locs 0 0 Q (F0 m 0 ls []) by
    have := hgo [] hS
    rw [hHe] at this
    exact this
  clear hS hHe
  intro locs hS
  refine lv_aload_n hx hb dX12_place_0 rfl (lv_at hl 0 rfl) ?_
  refine lv_aload_n hx hb dX12_place_1 rfl (lv_at hl 0 rfl) ?_
  refine va_get (D := (dC, dI)) (ci := 12) (v := .ref (q 2)) (C := RX12) (T := TX12) (N := 85) hx hb hts hiX12 hown hK hP 0 wm0 rfl 13 (by decide) (hts _ (List.mem_of_getElem? (i := 1) rfl)) (fun _ h9 => h9) rfl dX12_place_2 ?_
  refine lv_aload_n hx hb dX12_place_5 rfl (lv_at hl 0 rfl) ?_
  refine va_get (D := (dC, dI)) (ci := 12) (v := .int (iI (A 0 47))) (C := RX12) (T := TX12) (N := 85) hx hb hts hiX12 hown hK hP 0 wm0 rfl 47 (by decide) (hts _ (List.mem_of_getElem? (i := 2) rfl)) (fun _ h9 => h9) rfl dX12_place_6 ?_
  have r_A_0_47 : (0 : Int) ≤ (A 0 47) ∧ (A 0 47) ≤ 1 := hI 0 47
  refine x_iald hx hb hK hP 2 1 wm2 rfl ⟨by omega, by omega⟩ (by decide) dX12_place_9 (fun z1 hz1 => ?_)
  have rz1 : (0 : Int) ≤ z1 ∧ z1 ≤ 8 := by rw [hz1]; exact hI 2 _
  have hz1 : z1 = A 2 ((A 0 47)).toNat := hz1
  refine lv_bipush (v := iI 8) hx hb dX12_place_10 (by decide +kernel) ?_
  have J20_3 : ∀ (z4 : Int) (H : Heap) (locs : List Loc) (ls : Array Slot), (0 ≤ z4 ∧ z4 ≤ 1) → ((z4 = 0 ∧ ¬ z1 = 8) ∨ (z4 = 1 ∧ z1 = 8)) → va_P (dC, dI) vwCl (WM cI cJ cZ q A) H → va_S AS s.heap H locs → lv_has ls 1 [(0, .ref (q 0))] → W p l e (headSpec ws_mc_X12_place ({ frames := 3, cells := 0, slots := 0, locals := 70 } : Room)).room s m [.ref (q 0)].toArray below meth c H locs 0 0 Q (F0 m 20 ls [.int (iI z4), .ref (q 0)]) := by
    intro z4 H locs ls f6 f7 hP hS hl
    refine x_calli (As := [.int (iI z4)]) (rest := []) ⟨hx, hb, hml, hown, hts⟩ (mc_X12_counts l dC dI cB cI cJ cZ cQ q _ z4 hI ⟨by omega, by omega⟩) (cwV 1 hts g_mc_X12_place_0 rfl rfl rfl (by decide +kernel) ⟨Nat.le_of_ble_eq_true rfl, Nat.le_of_ble_eq_true rfl⟩) hK hDD hA0 hP hS 0 12 wm0 rfl rfl hl.1 (Nat.le_of_ble_eq_true rfl) dX12_place_20 (fun z8 A9 H locs hw10 hP hS => ?_)
    obtain ⟨hI, hf11, hw10⟩ := hw10
    have r_A9_0_8 : (0 : Int) ≤ (A9 0 8) ∧ (A9 0 8) ≤ 5 := hI 0 8
    refine lv_if_ne (tgt := 27) hx hb dX12_place_23 (by decide) (fun c12 => ?_) (fun c12 => ?_)
    · have c12 : ¬ z8 = 0 := mt (i_eq0 ⟨by omega, by omega⟩).mpr c12
      refine lv_aload_n hx hb dX12_place_27 rfl (lv_at hl 0 rfl) ?_
      refine va_get (D := (dC, dI)) (ci := 12) (v := .ref (q 3)) (C := RX12) (T := TX12) (N := 85) hx hb hts hiX12 hown hK hP 0 wm0 rfl 14 (by decide) (hts _ (List.mem_of_getElem? (i := 31) rfl)) (fun _ h9 => h9) rfl dX12_place_28 ?_
      refine lv_bipush (v := iI 8) hx hb dX12_place_31 (by decide +kernel) ?_
      refine lv_aload_n hx hb dX12_place_33 rfl (lv_at hl 0 rfl) ?_
      have e_A9_47 : A9 0 47 = (A 0 47) := (hf11.2 47 rfl)
      refine va_get (D := (dC, dI)) (ci := 12) (v := .int (iI (A9 0 47))) (C := RX12) (T := TX12) (N := 85) hx hb hts hiX12 hown hK hP 0 wm0 rfl 47 (by decide) (hts _ (List.mem_of_getElem? (i := 2) rfl)) (fun _ h9 => h9) rfl dX12_place_34 ?_
      refine tp_i (y := iI (A 0 47)) (congrArg iI e_A9_47) ?_
      refine x_mulv (v := 8 * (A 0 47)) hx hb dX12_place_37 (by omega) ?_
      refine lv_aload_n hx hb dX12_place_38 rfl (lv_at hl 0 rfl) ?_
      refine va_get (D := (dC, dI)) (ci := 12) (v := .ref (q 2)) (C := RX12) (T := TX12) (N := 85) hx hb hts hiX12 hown hK hP 0 wm0 rfl 13 (by decide) (hts _ (List.mem_of_getElem? (i := 1) rfl)) (fun _ h9 => h9) rfl dX12_place_39 ?_
      refine lv_aload_n hx hb dX12_place_42 rfl (lv_at hl 0 rfl) ?_
      refine va_get (D := (dC, dI)) (ci := 12) (v := .int (iI (A9 0 47))) (C := RX12) (T := TX12) (N := 85) hx hb hts hiX12 hown hK hP 0 wm0 rfl 47 (by decide) (hts _ (List.mem_of_getElem? (i := 2) rfl)) (fun _ h9 => h9) rfl dX12_place_43 ?_
      refine tp_i (y := iI (A 0 47)) (congrArg iI e_A9_47) ?_
      have a_A9_2 : A9 2 = A 2 := (hf11.1 2 (by decide) rfl)
      refine x_iald hx hb hK hP 2 1 wm2 rfl ⟨by omega, by omega⟩ (by decide) dX12_place_46 (fun z13 hz13 => ?_)
      have rz13 : (0 : Int) ≤ z13 ∧ z13 ≤ 8 := by rw [hz13]; exact hI 2 _
      have hz13 : z13 = A 2 ((A 0 47)).toNat := hz13.trans (congrFun a_A9_2 _)
      have ez13 : z13 = z1 := hz13.trans hz1.symm
      refine x_addv (v := 8 * (A 0 47) + z13) hx hb dX12_place_47 (by omega) ?_
      refine lv_aload_n hx hb dX12_place_48 rfl (lv_at hl 0 rfl) ?_
      refine x_calll (As := []) (rest := [.int (iI (8 * (A 0 47) + z13)), .ref (q 3)]) ⟨hx, hb, hml, hown, hts⟩ (mc_X12_fresh l dC dI cB cI cJ cZ cQ q _ hI) (cwV 0 hts g_mc_X12_place_1 rfl rfl rfl (by decide +kernel) ⟨Nat.le_of_ble_eq_true rfl, Nat.le_of_ble_eq_true rfl⟩) hK hDD hA0 hP hS 0 12 wm0 rfl rfl hl.1 (Nat.le_of_ble_eq_true rfl) dX12_place_49 (fun z14 A15 H locs hw16 hP hS => ?_)
      obtain ⟨hI, hf17, hw16⟩ := hw16
      refine x_last hx hb hK hP hDD hS 3 2 wm3 rfl ⟨by omega, by omega⟩ (by decide) dX12_place_52 ws3 (fun H locs hP hS => ?_)
      have hI := hI.st (j := 3) (i := (8 * (A 0 47) + z13).toNat) (v := z14) (show (-9223372036854775808 : Int) ≤ z14 ∧ z14 ≤ 9223372036854775807 from ⟨by omega, by omega⟩)
      refine lv_aload_n hx hb dX12_place_53 rfl (lv_at hl 0 rfl) ?_
      refine va_get (D := (dC, dI)) (ci := 12) (v := .int (iI (A15 0 8))) (C := RX12) (T := TX12) (N := 85) hx hb hts hiX12 hown hK hP 0 wm0 rfl 8 (by decide) (hts _ (List.mem_of_getElem? (i := 8) rfl)) (fun _ h9 => h9) rfl dX12_place_54 ?_
      have r_A15_0_8 : (0 : Int) ≤ (A15 0 8) ∧ (A15 0 8) ≤ 5 := hI 0 8
      refine lv_if_ne (tgt := 73) hx hb dX12_place_57 (by decide) (fun c18 => ?_) (fun c18 => ?_)
      · have c18 : ¬ (A15 0 8) = 0 := mt (i_eq0 ⟨by omega, by omega⟩).mpr c18
        exact RET _ _ _ _ _ ⟨hI, fr.st (fr.trans (fr.trans (fr.rf) hf11 rfl rfl) hf17 rfl rfl) (by decide) rfl, trivial⟩ hP hS dX12_place_73
      · have c18 : (A15 0 8) = 0 := (i_eq0 ⟨by omega, by omega⟩).mp c18
        refine lv_aload_n hx hb dX12_place_60 rfl (lv_at hl 0 rfl) ?_
        refine va_get (D := (dC, dI)) (ci := 12) (v := .ref (q 2)) (C := RX12) (T := TX12) (N := 85) hx hb hts hiX12 hown hK hP 0 wm0 rfl 13 (by decide) (hts _ (List.mem_of_getElem? (i := 1) rfl)) (fun _ h9 => h9) rfl dX12_place_61 ?_
        refine lv_aload_n hx hb dX12_place_64 rfl (lv_at hl 0 rfl) ?_
        have e_A15_47 : A15 0 47 = (A 0 47) := (hf17.2 47 rfl).trans e_A9_47
        refine va_get (D := (dC, dI)) (ci := 12) (v := .int (iI (A15 0 47))) (C := RX12) (T := TX12) (N := 85) hx hb hts hiX12 hown hK hP 0 wm0 rfl 47 (by decide) (hts _ (List.mem_of_getElem? (i := 2) rfl)) (fun _ h9 => h9) rfl dX12_place_65 ?_
        refine tp_i (y := iI (A 0 47)) (congrArg iI e_A15_47) ?_
        refine lv_dup2_11 hx hb dX12_place_68 rfl rfl ?_
        have a_A15_2 : A15 2 = A 2 := (hf17.1 2 (by decide) rfl).trans a_A9_2
        refine x_iald hx hb hK hP 2 1 wm2 rfl ⟨by omega, by omega⟩ (by decide) dX12_place_69 (fun z19 hz19 => ?_)
        have rz19 : (0 : Int) ≤ z19 ∧ z19 ≤ 8 := by rw [hz19]; exact hI 2 _
        have hz19 : z19 = A 2 ((A 0 47)).toNat := hz19.trans (congrFun a_A15_2 _)
        have ez19 : z19 = z1 := hz19.trans hz1.symm
        refine lv_iconst (v := iI 1) hx hb dX12_place_70 (by decide +kernel) ?_
        refine x_addv (v := z19 + 1) hx hb dX12_place_71 (by omega) ?_
        refine x_iast hx hb hK hP hDD hS 2 1 wm2 rfl ⟨by omega, by omega⟩ (by decide) dX12_place_72 ws2 (fun H locs hP hS => ?_)
        have hI := hI.st (j := 2) (i := ((A 0 47)).toNat) (v := z19 + 1) (show (0 : Int) ≤ z19 + 1 ∧ z19 + 1 ≤ 8 from ⟨by omega, by omega⟩)
        exact RET _ _ _ _ _ ⟨hI, fr.st (fr.st (fr.trans (fr.trans (fr.rf) hf11 rfl rfl) hf17 rfl rfl) (by decide) rfl) (by decide) rfl, trivial⟩ hP hS dX12_place_73
    · have c12 : z8 = 0 := (i_eq0 ⟨by omega, by omega⟩).mp c12
      exact RET _ _ _ _ _ ⟨hI, fr.trans (fr.rf) hf11 rfl rfl, trivial⟩ hP hS dX12_place_26
  refine lv_icmp_ne (tgt := 19) hx hb dX12_place_12 (by decide) (fun c2 => ?_) (fun c2 => ?_)
  · have c2 : ¬ z1 = 8 := mt (i_eq ⟨by omega, by omega⟩ ⟨by decide, by decide⟩).mpr c2
    refine lv_iconst (v := iI 0) hx hb dX12_place_19 (by decide +kernel) ?_
    exact J20_3 0 _ _ _ (by omega) (by omega) hP hS (lv_sub hl [0] rfl)
  · have c2 : z1 = 8 := (i_eq ⟨by omega, by omega⟩ ⟨by decide, by decide⟩).mp c2
    refine lv_iconst (v := iI 1) hx hb dX12_place_15 (by decide +kernel) ?_
    refine lv_goto (tgt := 20) hx hb dX12_place_16 (by decide) ?_
    exact J20_3 1 _ _ _ (by omega) (by omega) hP hS (lv_sub hl [0] rfl)

def ws_mc_X12_within : List Cond := .code yX12_within cX12_within 2 (some .int) :: ([.constantLong RX12 306 (26990), .methodLink RX12 402 yX12_must_, .instanceMethod yX12_must_, .selects RX12 yX12_must_ yX12_must_, .initialized RX12, .code yX12_must_ cX12_must_ 3 none, .fieldLink RX12 36 "StackKeysModel" "faultKind" "I", .methodLink RX12 368 yX12_isWord, .instanceMethod yX12_isWord, .selects RX12 yX12_isWord yX12_isWord, .code yX12_isWord cX12_isWord 3 (some .boolean), .fieldLink RX12 20 "StackKeysModel" "sign" "I", .fieldLink RX12 32 "StackKeysModel" "word" "J", .fieldLink RX12 23 "StackKeysModel" "signAt" "I", .methodLink RX12 286 yX12_blame, .instanceMethod yX12_blame, .selects RX12 yX12_blame yX12_blame, .code yX12_blame cX12_blame 3 none, .fieldLink RX12 39 "StackKeysModel" "faultPlace" "I", .methodLink RX12 293 yX12_ahead, .instanceMethod yX12_ahead, .selects RX12 yX12_ahead yX12_ahead, .code yX12_ahead cX12_ahead 6 none, .fieldLink RX12 26 "StackKeysModel" "signEnd" "I", .fieldLink RX12 17 "StackKeysModel" "size" "I", .fieldLink RX12 7 "StackKeysModel" "tape" "[I", .methodLink RX12 279 yX12_isLetter, .static yX12_isLetter, .code yX12_isLetter cX12_isLetter 1 (some .boolean), .methodLink RX12 283 yX12_isDigit, .static yX12_isDigit, .code yX12_isDigit cX12_isDigit 1 (some .boolean), .fieldLink RX12 29 "StackKeysModel" "value" "I", .methodLink RX12 387 yX12_isOwn, .instanceMethod yX12_isOwn, .selects RX12 yX12_isOwn yX12_isOwn, .code yX12_isOwn cX12_isOwn 3 (some .boolean), .constantLong RX12 296 (482854658917), .constantLong RX12 298 (1685024626), .constantLong RX12 300 (6451064), .constantLong RX12 302 (24948), .constantLong RX12 304 (7038329), .constantLong RX12 308 (123581014175598), .constantLong RX12 310 (6840691), .constantLong RX12 312 (1936225652), .constantLong RX12 314 (25209), .constantLong RX12 316 (1819243380), .constantLong RX12 318 (499967946343), .constantLong RX12 320 (512735736947), .constantLong RX12 322 (1836413812), .constantLong RX12 324 (6447474), .constantLong RX12 326 (2003330414), .constantLong RX12 328 (28530), .constantLong RX12 330 (6385252), .constantLong RX12 332 (7237492), .constantLong RX12 334 (6384748), .constantLong RX12 336 (7825519), .constantLong RX12 338 (1936748404), .constantLong RX12 340 (1801812339), .constantLong RX12 342 (109317377451364), .constantLong RX12 344 (7170414), .constantLong RX12 346 (7168376), .methodLink RX12 390 yX12_named, .instanceMethod yX12_named, .selects RX12 yX12_named yX12_named, .code yX12_named cX12_named 6 (some .int), .fieldLink RX12 104 "StackKeysModel" "things" "[I", .fieldLink RX12 155 "StackKeysModel" "in" "I", .fieldLink RX12 95 "StackKeysModel" "persons" "[I", .fieldLink RX12 80 "StackKeysModel" "keys" "[I", .fieldLink RX12 58 "StackKeysModel" "doors" "[I", .fieldLink RX12 51 "StackKeysModel" "places" "[I", .methodLink RX12 348 yX12_nameOf, .instanceMethod yX12_nameOf, .selects RX12 yX12_nameOf yX12_nameOf, .code yX12_nameOf cX12_nameOf 4 (some .long), .fieldLink RX12 107 "StackKeysModel" "thingName" "[J", .fieldLink RX12 54 "StackKeysModel" "placeName" "[J", .fieldLink RX12 61 "StackKeysModel" "doorName" "[J", .fieldLink RX12 83 "StackKeysModel" "keyName" "[J", .fieldLink RX12 98 "StackKeysModel" "personName" "[J", .fieldLink RX12 70 "StackKeysModel" "isBox" "[Z", .methodLink RX12 406 yX12_asked, .instanceMethod yX12_asked, .selects RX12 yX12_asked yX12_asked, .code yX12_asked cX12_asked 3 (some .int)] ++ wsX120)
set_option maxRecDepth 20000 in
theorem g_mc_X12_within_0 : GoodIn ws_mc_X12_within (wsV RX12 402 RX12 yX12_must_ ws_mc_X12_must_) := goodIn_r _ [2, 3, 4, 5, 6, 7, 8, 9, 10, 5, 11, 12, 13, 14, 15, 16, 17, 18, 19, 20, 21, 22, 23, 24, 25, 26, 27, 28, 29, 30, 31, 32, 33, 87, 88, 89, 90, 91, 92, 93, 94, 95, 96, 97, 98, 99, 100, 101, 102, 103, 104, 105, 106, 107, 108, 109, 110, 111, 112, 113, 114, 115, 116, 117, 118, 119, 120, 121, 122, 123, 124, 125, 126, 127, 128, 129, 130, 131, 132, 133, 134, 135, 136, 137, 138, 139, 140, 141, 142, 143, 144, 145, 146, 147, 148, 149, 150, 151, 152, 153, 154, 155, 156, 157, 158, 159, 160, 161, 162, 163, 164, 165, 166, 167, 168, 169, 170, 171] (by decide +kernel) (by decide +kernel)
set_option maxRecDepth 20000 in
theorem g_mc_X12_within_1 : GoodIn ws_mc_X12_within (wsV RX12 387 RX12 yX12_isOwn ws_mc_X12_isOwn) := goodIn_r _ [34, 35, 36, 5, 37, 38, 39, 40, 41, 42, 1, 43, 44, 45, 46, 47, 48, 49, 50, 51, 52, 53, 54, 55, 56, 57, 58, 59, 60, 61, 62] (by decide +kernel) (by decide +kernel)
set_option maxRecDepth 20000 in
theorem g_mc_X12_within_2 : GoodIn ws_mc_X12_within (wsV RX12 390 RX12 yX12_named ws_mc_X12_named) := goodIn_r _ [63, 64, 65, 5, 66, 67, 68, 69, 70, 71, 72, 73, 74, 75, 5, 76, 77, 78, 79, 80, 81, 87, 88, 89, 90, 91, 92, 93, 94, 95, 96, 97, 98, 99, 100, 101, 102, 103, 104, 105, 106, 107, 108, 109, 110, 111, 112, 113, 114, 115, 116, 117, 118, 119, 120, 121, 122, 123, 124, 125, 126, 127, 128, 129, 130, 131, 132, 133, 134, 135, 136, 137, 138, 139, 140, 141, 142, 143, 144, 145, 146, 147, 148, 149, 150, 151, 152, 153, 154, 155, 156, 157, 158, 159, 160, 161, 162, 163, 164, 165, 166, 167, 168, 169, 170, 171] (by decide +kernel) (by decide +kernel)
set_option maxRecDepth 20000 in
theorem g_mc_X12_within_3 : GoodIn ws_mc_X12_within (wsV RX12 293 RX12 yX12_ahead ws_mc_X12_ahead) := goodIn_r _ [20, 21, 22, 5, 23, 24, 25, 26, 14, 12, 27, 28, 5, 29, 30, 31, 32, 15, 16, 17, 18, 7, 19, 33, 13, 87, 88, 89, 90, 91, 92, 93, 94, 95, 96, 97, 98, 99, 100, 101, 102, 103, 104, 105, 106, 107, 108, 109, 110, 111, 112, 113, 114, 115, 116, 117, 118, 119, 120, 121, 122, 123, 124, 125, 126, 127, 128, 129, 130, 131, 132, 133, 134, 135, 136, 137, 138, 139, 140, 141, 142, 143, 144, 145, 146, 147, 148, 149, 150, 151, 152, 153, 154, 155, 156, 157, 158, 159, 160, 161, 162, 163, 164, 165, 166, 167, 168, 169, 170, 171] (by decide +kernel) (by decide +kernel)
set_option maxRecDepth 20000 in
theorem g_mc_X12_within_4 : GoodIn ws_mc_X12_within (wsV RX12 406 RX12 yX12_asked ws_mc_X12_asked) := goodIn_r _ [83, 84, 85, 5, 86, 7, 12, 13, 34, 35, 36, 5, 37, 38, 39, 40, 41, 42, 1, 43, 44, 45, 46, 47, 48, 49, 50, 51, 52, 53, 54, 55, 56, 57, 58, 59, 60, 61, 62, 14, 15, 16, 17, 18, 19, 63, 64, 65, 66, 67, 68, 69, 70, 71, 72, 73, 74, 75, 76, 77, 78, 79, 80, 81, 20, 21, 22, 23, 24, 25, 26, 27, 28, 29, 30, 31, 32, 33, 87, 88, 89, 90, 91, 92, 93, 94, 95, 96, 97, 98, 99, 100, 101, 102, 103, 104, 105, 106, 107, 108, 109, 110, 111, 112, 113, 114, 115, 116, 117, 118, 119, 120, 121, 122, 123, 124, 125, 126, 127, 128, 129, 130, 131, 132, 133, 134, 135, 136, 137, 138, 139, 140, 141, 142, 143, 144, 145, 146, 147, 148, 149, 150, 151, 152, 153, 154, 155, 156, 157, 158, 159, 160, 161, 162, 163, 164, 165, 166, 167, 168, 169, 170, 171] (by decide +kernel) (by decide +kernel)
set_option maxHeartbeats 4000000 in
set_option maxRecDepth 100000 in
theorem mc_X12_within (l : Launch) (dC : Nat → ClassId) (dI : Nat → Nat → Nat) (cB cI cJ cZ cQ : ClassId) (q : Nat → Nat) (A : St) (hI : IM A) : XMi l yX12_within ws_mc_X12_within ({ frames := 3, cells := 0, slots := 0, locals := 70 } : Room) (dC, dI) (tyA cB cI cJ cZ cQ) (WM cI cJ cZ q) A [.ref (q 0)] (fun z u => IM u ∧ fr [] [3, 4, 5, 6, 7, 8, 9] A u ∧ (0 ≤ z ∧ z ≤ 29)) := by
  refine x_meti (cc := cX12_within) (maxL := 2) WM_adr (by decide +kernel) rfl (Nat.le_of_ble_eq_true rfl) (fun p e s m below meth c Q AS ls hx hb hml hown hts hK hDD hA0 hP hS hl RET => ?_)
  have hown : s.vm.findClass RX12 = some m.cls := hown
  have hl : lv_has ls 2 [(0, .ref (q 0))] := hl
  have hiX12 : ∀ w ∈ u_ws RX12 TX12 85, w ∈ ws_mc_X12_within := fun w h => List.mem_cons_of_mem _ (List.mem_append_right _ h)
  obtain ⟨H, hHe⟩ : ∃ H : Heap, H = s.heap := ⟨_, rfl⟩
  rw [← hHe] at hP
  have hS : va_S AS s.heap H [] := by rw [hHe]; exact hS
  suffices hgo : ∀ locs : List Loc, va_S AS s.heap H locs → W p l e (headSpec ws_mc_X12_within ({ frames := 3, cells := 0, slots := 0, locals := 70 } : Room)).room s m [.ref (q 0)].toArray below meth c H locs 0 0 Q (F0 m 0 ls []) by
    have := hgo [] hS
    rw [hHe] at this
    exact this
  clear hS hHe
  intro locs hS
  refine lv_aload_n hx hb dX12_within_0 rfl (lv_at hl 0 rfl) ?_
  refine lv_ldc2 (v := 26990) hx hb hown (hts _ (List.mem_of_getElem? (i := 1) rfl)) dX12_within_1 ?_
  refine tp_l (y := jI 26990) (by decide +kernel) ?_
  refine x_callv (As := [.long (jI 26990)]) (rest := []) ⟨hx, hb, hml, hown, hts⟩ (mc_X12_must_ l dC dI cB cI cJ cZ cQ q _ 26990 hI ⟨by omega, by omega⟩) (cwV 1 hts g_mc_X12_within_0 rfl rfl rfl (by decide +kernel) ⟨Nat.le_of_ble_eq_true rfl, Nat.le_of_ble_eq_true rfl⟩) hK hDD hA0 hP hS 0 12 wm0 rfl rfl hl.1 (Nat.le_of_ble_eq_true rfl) dX12_within_4 (fun A1 H locs hw2 hP hS => ?_)
  obtain ⟨hI, hf3, hw2⟩ := hw2
  clear hw2
  refine lv_aload_n hx hb dX12_within_7 rfl (lv_at hl 0 rfl) ?_
  refine va_get (D := (dC, dI)) (ci := 12) (v := .int (iI (A1 0 8))) (C := RX12) (T := TX12) (N := 85) hx hb hts hiX12 hown hK hP 0 wm0 rfl 8 (by decide) (hts _ (List.mem_of_getElem? (i := 7) rfl)) (fun _ h9 => h9) rfl dX12_within_8 ?_
  have r_A1_0_8 : (0 : Int) ≤ (A1 0 8) ∧ (A1 0 8) ≤ 5 := hI 0 8
  refine lv_if_le (tgt := 16) hx hb dX12_within_11 (by decide) (fun c4 => ?_) (fun c4 => ?_)
  · have c4 : (A1 0 8) ≤ 0 := (i_le0 ⟨by omega, by omega⟩).mp c4
    refine lv_aload_n hx hb dX12_within_16 rfl (lv_at hl 0 rfl) ?_
    refine va_get (D := (dC, dI)) (ci := 12) (v := .int (iI (A1 0 3))) (C := RX12) (T := TX12) (N := 85) hx hb hts hiX12 hown hK hP 0 wm0 rfl 3 (by decide) (hts _ (List.mem_of_getElem? (i := 12) rfl)) (fun _ h9 => h9) rfl dX12_within_17 ?_
    have r_A1_0_3 : (0 : Int) ≤ (A1 0 3) ∧ (A1 0 3) ≤ 3 := hI 0 3
    refine lv_iconst (v := iI 1) hx hb dX12_within_20 (by decide +kernel) ?_
    have J48_7 : ∀ (z16 : Int) (H : Heap) (locs : List Loc) (ls : Array Slot), (-1 ≤ z16 ∧ z16 ≤ 9) → va_P (dC, dI) vwCl (WM cI cJ cZ q A1) H → va_S AS s.heap H locs → lv_has ls 2 [(0, .ref (q 0))] → W p l e (headSpec ws_mc_X12_within ({ frames := 3, cells := 0, slots := 0, locals := 70 } : Room)).room s m [.ref (q 0)].toArray below meth c H locs 0 0 Q (F0 m 48 ls [.int (iI z16)]) := by
      intro z16 H locs ls f18 hP hS hl
      refine lv_istore_n (lv' := [(1, .int (iI z16)), (0, .ref (q 0))]) hx hb dX12_within_48 rfl hl (by decide) rfl (fun ls hl => ?_)
      refine lv_iload_n hx hb dX12_within_49 rfl (lv_at hl 0 rfl) ?_
      refine lv_iconst (v := iI (-1)) hx hb dX12_within_50 (by decide +kernel) ?_
      have J71_20 : ∀ (H : Heap) (locs : List Loc) (ls : Array Slot), va_P (dC, dI) vwCl (WM cI cJ cZ q A1) H → va_S AS s.heap H locs → lv_has ls 2 [(1, .int (iI z16)), (0, .ref (q 0))] → W p l e (headSpec ws_mc_X12_within ({ frames := 3, cells := 0, slots := 0, locals := 70 } : Room)).room s m [.ref (q 0)].toArray below meth c H locs 0 0 Q (F0 m 71 ls []) := by
        intro H locs ls hP hS hl
        refine lv_bipush (v := iI 10) hx hb dX12_within_71 (by decide +kernel) ?_
        refine lv_aload_n hx hb dX12_within_73 rfl (lv_at hl 1 rfl) ?_
        refine lv_iconst (v := iI 0) hx hb dX12_within_74 (by decide +kernel) ?_
        refine x_calli (As := [.int (iI 0)]) (rest := [.int (iI 10)]) ⟨hx, hb, hml, hown, hts⟩ (mc_X12_asked l dC dI cB cI cJ cZ cQ q _ 0 hI ⟨by omega, by omega⟩) (cwV 1 hts g_mc_X12_within_4 rfl rfl rfl (by decide +kernel) ⟨Nat.le_of_ble_eq_true rfl, Nat.le_of_ble_eq_true rfl⟩) hK hDD hA0 hP hS 0 12 wm0 rfl rfl hl.1 (Nat.le_of_ble_eq_true rfl) dX12_within_75 (fun z27 A28 H locs hw29 hP hS => ?_)
        obtain ⟨hI, hf30, hw29⟩ := hw29
        refine x_addv (v := z27 + 10) hx hb dX12_within_78 (by omega) ?_
        exact RET (z27 + 10) _ _ _ _ _ ⟨hI, fr.trans (fr.trans (fr.rf) hf3 rfl rfl) hf30 rfl rfl, by omega⟩ hP hS dX12_within_79
      refine lv_icmp_eq (tgt := 71) hx hb dX12_within_51 (by decide) (fun c19 => ?_) (fun c19 => ?_)
      · have c19 : z16 = (-1) := (i_eq ⟨by omega, by omega⟩ ⟨by decide, by decide⟩).mp c19
        exact J71_20 _ _ _ hP hS (lv_sub hl [0, 1] rfl)
      · have c19 : ¬ z16 = (-1) := mt (i_eq ⟨by omega, by omega⟩ ⟨by decide, by decide⟩).mpr c19
        refine lv_aload_n hx hb dX12_within_54 rfl (lv_at hl 1 rfl) ?_
        refine va_get (D := (dC, dI)) (ci := 12) (v := .ref (q 8)) (C := RX12) (T := TX12) (N := 85) hx hb hts hiX12 hown hK hP 0 wm0 rfl 19 (by decide) (hts _ (List.mem_of_getElem? (i := 82) rfl)) (fun _ h9 => h9) rfl dX12_within_55 ?_
        refine lv_bipush (v := iI 10) hx hb dX12_within_58 (by decide +kernel) ?_
        refine lv_aload_n hx hb dX12_within_60 rfl (lv_at hl 1 rfl) ?_
        have e_A1_47 : A1 0 47 = (A 0 47) := (hf3.2 47 rfl)
        refine va_get (D := (dC, dI)) (ci := 12) (v := .int (iI (A1 0 47))) (C := RX12) (T := TX12) (N := 85) hx hb hts hiX12 hown hK hP 0 wm0 rfl 47 (by decide) (hts _ (List.mem_of_getElem? (i := 68) rfl)) (fun _ h9 => h9) rfl dX12_within_61 ?_
        refine tp_i (y := iI (A 0 47)) (congrArg iI e_A1_47) ?_
        have r_A_0_47 : (0 : Int) ≤ (A 0 47) ∧ (A 0 47) ≤ 1 := by rw [← e_A1_47]; exact hI 0 47
        refine x_mulv (v := 10 * (A 0 47)) hx hb dX12_within_64 (by omega) ?_
        refine lv_iload_n hx hb dX12_within_65 rfl (lv_at hl 0 rfl) ?_
        refine x_addv (v := 10 * (A 0 47) + z16) hx hb dX12_within_66 (by omega) ?_
        have a_A1_8 : A1 8 = A 8 := (hf3.1 8 (by decide) rfl)
        refine x_zald hx hb hK hP 8 3 wm8 rfl ⟨by omega, by omega⟩ (by decide) dX12_within_67 (fun z21 hz21 => ?_)
        have rz21 : (0 : Int) ≤ z21 ∧ z21 ≤ 1 := by rw [hz21]; exact hI 8 _
        have hz21 : z21 = A 8 (10 * (A 0 47) + z16).toNat := hz21.trans (congrFun a_A1_8 _)
        refine lv_if_ne (tgt := 80) hx hb dX12_within_68 (by decide) (fun c22 => ?_) (fun c22 => ?_)
        · have c22 : ¬ z21 = 0 := mt (i_eq0 ⟨by omega, by omega⟩).mpr c22
          refine lv_aload_n hx hb dX12_within_80 rfl (lv_at hl 1 rfl) ?_
          refine x_callv (As := []) (rest := []) ⟨hx, hb, hml, hown, hts⟩ (mc_X12_ahead l dC dI cB cI cJ cZ cQ q _ hI) (cwV 0 hts g_mc_X12_within_3 rfl rfl rfl (by decide +kernel) ⟨Nat.le_of_ble_eq_true rfl, Nat.le_of_ble_eq_true rfl⟩) hK hDD hA0 hP hS 0 12 wm0 rfl rfl hl.1 (Nat.le_of_ble_eq_true rfl) dX12_within_81 (fun A23 H locs hw24 hP hS => ?_)
          obtain ⟨hI, hf25, hw24⟩ := hw24
          clear hw24
          refine lv_bipush (v := iI 20) hx hb dX12_within_84 (by decide +kernel) ?_
          refine lv_iload_n hx hb dX12_within_86 rfl (lv_at hl 0 rfl) ?_
          refine x_addv (v := z16 + 20) hx hb dX12_within_87 (by omega) ?_
          exact RET (z16 + 20) _ _ _ _ _ ⟨hI, fr.trans (fr.trans (fr.rf) hf3 rfl rfl) hf25 rfl rfl, by omega⟩ hP hS dX12_within_88
        · have c22 : z21 = 0 := (i_eq0 ⟨by omega, by omega⟩).mp c22
          exact J71_20 _ _ _ hP hS (lv_sub hl [0, 1] rfl)
    have J47_6 : ∀ (H : Heap) (locs : List Loc) (ls : Array Slot), va_P (dC, dI) vwCl (WM cI cJ cZ q A1) H → va_S AS s.heap H locs → lv_has ls 2 [(0, .ref (q 0))] → W p l e (headSpec ws_mc_X12_within ({ frames := 3, cells := 0, slots := 0, locals := 70 } : Room)).room s m [.ref (q 0)].toArray below meth c H locs 0 0 Q (F0 m 47 ls []) := by
      intro H locs ls hP hS hl
      refine lv_iconst (v := iI (-1)) hx hb dX12_within_47 (by decide +kernel) ?_
      exact J48_7 (-1) _ _ _ (by omega) hP hS (lv_sub hl [0] rfl)
    refine lv_icmp_ne (tgt := 47) hx hb dX12_within_21 (by decide) (fun c5 => ?_) (fun c5 => ?_)
    · have c5 : ¬ (A1 0 3) = 1 := mt (i_eq ⟨by omega, by omega⟩ ⟨by decide, by decide⟩).mpr c5
      exact J47_6 _ _ _ hP hS (lv_sub hl [0] rfl)
    · have c5 : (A1 0 3) = 1 := (i_eq ⟨by omega, by omega⟩ ⟨by decide, by decide⟩).mp c5
      refine lv_aload_n hx hb dX12_within_24 rfl (lv_at hl 0 rfl) ?_
      refine lv_aload_n hx hb dX12_within_25 rfl (lv_at hl 0 rfl) ?_
      refine va_get (D := (dC, dI)) (ci := 12) (v := .long (jI (A1 0 7))) (C := RX12) (T := TX12) (N := 85) hx hb hts hiX12 hown hK hP 0 wm0 rfl 7 (by decide) (hts _ (List.mem_of_getElem? (i := 13) rfl)) (fun _ h9 => h9) rfl dX12_within_26 ?_
      have r_A1_0_7 : (-9223372036854775808 : Int) ≤ (A1 0 7) ∧ (A1 0 7) ≤ 9223372036854775807 := hI 0 7
      refine x_calli (As := [.long (jI (A1 0 7))]) (rest := []) ⟨hx, hb, hml, hown, hts⟩ (mc_X12_isOwn l dC dI cB cI cJ cZ cQ q _ (A1 0 7) hI ⟨by omega, by omega⟩) (cwV 1 hts g_mc_X12_within_1 rfl rfl rfl (by decide +kernel) ⟨Nat.le_of_ble_eq_true rfl, Nat.le_of_ble_eq_true rfl⟩) hK hDD hA0 hP hS 0 12 wm0 rfl rfl hl.1 (Nat.le_of_ble_eq_true rfl) dX12_within_29 (fun z8 A9 H locs hw10 hP hS => ?_)
      obtain ⟨rfl, hw10⟩ := hw10
      refine lv_if_ne (tgt := 47) hx hb dX12_within_32 (by decide) (fun c11 => ?_) (fun c11 => ?_)
      · have c11 : ¬ z8 = 0 := mt (i_eq0 ⟨by omega, by omega⟩).mpr c11
        exact J47_6 _ _ _ hP hS (lv_sub hl [0] rfl)
      · have c11 : z8 = 0 := (i_eq0 ⟨by omega, by omega⟩).mp c11
        refine lv_aload_n hx hb dX12_within_35 rfl (lv_at hl 0 rfl) ?_
        refine lv_iconst (v := iI 1) hx hb dX12_within_36 (by decide +kernel) ?_
        refine lv_aload_n hx hb dX12_within_37 rfl (lv_at hl 0 rfl) ?_
        refine va_get (D := (dC, dI)) (ci := 12) (v := .long (jI (A1 0 7))) (C := RX12) (T := TX12) (N := 85) hx hb hts hiX12 hown hK hP 0 wm0 rfl 7 (by decide) (hts _ (List.mem_of_getElem? (i := 13) rfl)) (fun _ h9 => h9) rfl dX12_within_38 ?_
        refine x_calli (As := [.int (iI 1), .long (jI (A1 0 7))]) (rest := []) ⟨hx, hb, hml, hown, hts⟩ (mc_X12_named l dC dI cB cI cJ cZ cQ q _ 1 (A1 0 7) hI ⟨by omega, by omega⟩ ⟨by omega, by omega⟩) (cwV 2 hts g_mc_X12_within_2 rfl rfl rfl (by decide +kernel) ⟨Nat.le_of_ble_eq_true rfl, Nat.le_of_ble_eq_true rfl⟩) hK hDD hA0 hP hS 0 12 wm0 rfl rfl hl.1 (Nat.le_of_ble_eq_true rfl) dX12_within_41 (fun z12 A13 H locs hw14 hP hS => ?_)
        obtain ⟨rfl, hw14⟩ := hw14
        refine lv_goto (tgt := 48) hx hb dX12_within_44 (by decide) ?_
        exact J48_7 z12 _ _ _ (by omega) hP hS (lv_sub hl [0] rfl)
  · have c4 : ¬ (A1 0 8) ≤ 0 := mt (i_le0 ⟨by omega, by omega⟩).mpr c4
    refine lv_iconst (v := iI 0) hx hb dX12_within_14 (by decide +kernel) ?_
    exact RET 0 _ _ _ _ _ ⟨hI, fr.trans (fr.rf) hf3 rfl rfl, by omega⟩ hP hS dX12_within_15
