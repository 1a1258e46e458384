def ws_mb_X12_barring : List Cond := .code yX12_barring cX12_barring 3 none :: WX
set_option maxHeartbeats 4000000 in
set_option maxRecDepth 100000 in
theorem mb_X12_barring (l : Launch) (dC : Nat → ClassId) (dI : Nat → Nat → Nat) (cB cI cJ cZ cQ : ClassId) (q : Nat → Nat) (A : St) (hI : IM A) (hp0 : CB A) (hcCI : CI A) : XMv l yX12_barring ws_mb_X12_barring ({ frames := 5, cells := 0, slots := 0, locals := 113 } : Room) (dC, dI) (tyA cB cI cJ cZ cQ) (WM cI cJ cZ q) A [.ref (q 0)] (fun u => IM u ∧ fr [29, 30, 31, 32, 33, 34, 35, 36, 37, 38, 39, 40] [3, 4, 5, 6, 7, 8, 9, 46, 53, 54, 56, 57] A u ∧ CI u ∧ (Hd (u 0 8 = 0 → CB u ∧ A 0 5 ≤ u 0 4))) := by
  refine x_metv (cc := cX12_barring) (maxL := 3) WM_adr (by decide +kernel) rfl (Nat.le_of_ble_eq_true rfl) (fun p e s m below meth c Q AS ls hx hb hml hown hts hK hDD hA0 hP hS hl RET => ?_)
  have hown : s.vm.findClass RX12 = some m.cls := hown
  have hl : lv_has ls 3 [(0, .ref (q 0))] := hl
  have hiX12 : ∀ w ∈ u_ws RX12 TX12 85, w ∈ ws_mb_X12_barring := fun w h => List.mem_cons_of_mem _ (wx_lay w h)
  obtain ⟨H, hHe⟩ : ∃ H : Heap, H = s.heap := ⟨_, rfl⟩
  rw [← hHe] at hP
  have hS : va_S AS s.heap H [] := by rw [hHe]; exact hS
  suffices hgo : ∀ locs : List Loc, va_S AS s.heap H locs → W p l e (headSpec ws_mb_X12_barring ({ frames := 5, cells := 0, slots := 0, locals := 113 } : Room)).room s m [.ref (q 0)].toArray below meth c H locs 0 0 Q (F0 m 0 ls []) by
    have := hgo [] hS
    rw [hHe] at this
    exact this
  clear hS hHe
  intro locs hS
  have hle := CB.le hp0
  refine lv_aload_n hx hb dX12_barring_0 rfl (lv_at hl 0 rfl) ?_
  refine lv_aload_n hx hb dX12_barring_1 rfl (lv_at hl 0 rfl) ?_
  refine va_get (D := (dC, dI)) (ci := 12) (v := .ref (q 29)) (C := RX12) (T := TX12) (N := 85) hx hb hts hiX12 hown hK hP 0 wm0 rfl 40 (by decide) (hts _ (List.mem_cons_of_mem _ (wl_in_3 _ (List.mem_of_getElem? (i := 25) rfl)))) (fun _ h9 => h9) rfl dX12_barring_2 ?_
  refine lv_aload_n hx hb dX12_barring_5 rfl (lv_at hl 0 rfl) ?_
  refine va_get (D := (dC, dI)) (ci := 12) (v := .int (iI (A 0 47))) (C := RX12) (T := TX12) (N := 85) hx hb hts hiX12 hown hK hP 0 wm0 rfl 47 (by decide) (hts _ (List.mem_cons_of_mem _ (wl_in_1 _ (List.mem_of_getElem? (i := 12) rfl)))) (fun _ h9 => h9) rfl dX12_barring_6 ?_
  have r_A_0_47 : (0 : Int) ≤ (A 0 47) ∧ (A 0 47) ≤ 1 := hI 0 47
  refine x_iald hx hb hK hP 29 1 wm29 rfl (by omega) (by decide) dX12_barring_9 (fun z1 hz1 => ?_)
  have rz1 : (0 : Int) ≤ z1 ∧ z1 ≤ 6 := by rw [hz1]; exact hI 29 _
  have hz1 : z1 = A 29 ((A 0 47)).toNat := hz1
  refine lv_bipush (v := iI 6) hx hb dX12_barring_10 (by decide +kernel) ?_
  have J20_3 : ∀ (z4 : Int) (H : Heap) (locs : List Loc) (ls : Array Slot), (0 ≤ z4 ∧ z4 ≤ 1) → ((z4 = 0 ∧ ¬ z1 = 6) ∨ (z4 = 1 ∧ z1 = 6)) → (Hd ((z4 = 1 ∧ A 29 (A 0 47).toNat = 6) ∨ (z4 = 0 ∧ ¬ A 29 (A 0 47).toNat = 6))) → va_P (dC, dI) vwCl (WM cI cJ cZ q A) H → va_S AS s.heap H locs → lv_has ls 3 [(0, .ref (q 0))] → W p l e (headSpec ws_mb_X12_barring ({ frames := 5, cells := 0, slots := 0, locals := 113 } : Room)).room s m [.ref (q 0)].toArray below meth c H locs 0 0 Q (F0 m 20 ls [.int (iI z4), .ref (q 0)]) := by
    intro z4 H locs ls f6 f7 f8 hP hS hl
    have r_A_0_4 : (0 : Int) ≤ (A 0 4) ∧ (A 0 4) ≤ 1600 := hI 0 4
    have r_A_0_5 : (0 : Int) ≤ (A 0 5) ∧ (A 0 5) ≤ 1600 := hI 0 5
    refine x_calli (As := [.int (iI z4)]) (rest := []) ⟨hx, hb, hml, hown, hts⟩ (mb_X12_counts l dC dI cB cI cJ cZ cQ q _ z4 hI f6 hp0) (cwV 1 hts (goodV (wl_in_2 _ (List.mem_of_getElem? (i := 32) rfl)) (wl_in_2 _ (List.mem_of_getElem? (i := 33) rfl)) (wl_in_2 _ (List.mem_of_getElem? (i := 34) rfl)) (wl_in_0 _ (List.mem_of_getElem? (i := 8) rfl)) (wl_in_2 _ (List.mem_of_getElem? (i := 20) rfl))) rfl rfl rfl (by decide +kernel) ⟨Nat.le_of_ble_eq_true rfl, Nat.le_of_ble_eq_true rfl⟩) hK hDD hA0 hP hS 0 12 wm0 rfl rfl hl.1 (Nat.le_of_ble_eq_true rfl) dX12_barring_20 (fun z9 A10 H locs hw11 hP hS => ?_)
    obtain ⟨hI, hf12, hw11⟩ := hw11
    obtain ⟨hc13, hw11⟩ := hw11
    have r_A10_0_4 : (0 : Int) ≤ (A10 0 4) ∧ (A10 0 4) ≤ 1600 := hI 0 4
    have r_A10_0_8 : (0 : Int) ≤ (A10 0 8) ∧ (A10 0 8) ≤ 5 := hI 0 8
    have rz9 : 0 ≤ z9 ∧ z9 ≤ 1 := hw11.1
    refine lv_if_ne (tgt := 27) hx hb dX12_barring_23 (by decide) (fun c14 => ?_) (fun c14 => ?_)
    · have c14 : ¬ z9 = 0 := mt (i_eq0 (rb rz9 (by decide) (by decide))).mpr c14
      refine lv_bipush (v := iI 6) hx hb dX12_barring_27 (by decide +kernel) ?_
      refine lv_aload_n hx hb dX12_barring_29 rfl (lv_at hl 0 rfl) ?_
      have e_A10_47 : A10 0 47 = (A 0 47) := (hf12.2 47 rfl)
      refine va_get (D := (dC, dI)) (ci := 12) (v := .int (iI (A10 0 47))) (C := RX12) (T := TX12) (N := 85) hx hb hts hiX12 hown hK hP 0 wm0 rfl 47 (by decide) (hts _ (List.mem_cons_of_mem _ (wl_in_1 _ (List.mem_of_getElem? (i := 12) rfl)))) (fun _ h9 => h9) rfl dX12_barring_30 ?_
      refine tp_i (y := iI (A 0 47)) (congrArg iI e_A10_47) ?_
      refine x_mulv (v := 6 * (A 0 47)) hx hb dX12_barring_33 (by omega) ?_
      refine lv_aload_n hx hb dX12_barring_34 rfl (lv_at hl 0 rfl) ?_
      refine va_get (D := (dC, dI)) (ci := 12) (v := .ref (q 29)) (C := RX12) (T := TX12) (N := 85) hx hb hts hiX12 hown hK hP 0 wm0 rfl 40 (by decide) (hts _ (List.mem_cons_of_mem _ (wl_in_3 _ (List.mem_of_getElem? (i := 25) rfl)))) (fun _ h9 => h9) rfl dX12_barring_35 ?_
      refine lv_aload_n hx hb dX12_barring_38 rfl (lv_at hl 0 rfl) ?_
      refine va_get (D := (dC, dI)) (ci := 12) (v := .int (iI (A10 0 47))) (C := RX12) (T := TX12) (N := 85) hx hb hts hiX12 hown hK hP 0 wm0 rfl 47 (by decide) (hts _ (List.mem_cons_of_mem _ (wl_in_1 _ (List.mem_of_getElem? (i := 12) rfl)))) (fun _ h9 => h9) rfl dX12_barring_39 ?_
      refine tp_i (y := iI (A 0 47)) (congrArg iI e_A10_47) ?_
      have a_A10_29 : A10 29 = A 29 := (hf12.1 29 (by decide) rfl)
      refine x_iald hx hb hK hP 29 1 wm29 rfl (by omega) (by decide) dX12_barring_42 (fun z15 hz15 => ?_)
      have rz15 : (0 : Int) ≤ z15 ∧ z15 ≤ 6 := by rw [hz15]; exact hI 29 _
      have hz15 : z15 = A 29 ((A 0 47)).toNat := hz15.trans (congrFun a_A10_29 _)
      have ez15 : z15 = z1 := hz15.trans hz1.symm
      refine x_addv (v := 6 * (A 0 47) + z15) hx hb dX12_barring_43 (by omega) ?_
      refine lv_istore_n (lv' := [(1, .int (iI (6 * (A 0 47) + z15))), (0, .ref (q 0))]) hx hb dX12_barring_44 rfl hl (by decide) rfl (fun ls hl => ?_)
      refine lv_aload_n hx hb dX12_barring_45 rfl (lv_at hl 1 rfl) ?_
      refine va_get (D := (dC, dI)) (ci := 12) (v := .int (iI (A10 0 8))) (C := RX12) (T := TX12) (N := 85) hx hb hts hiX12 hown hK hP 0 wm0 rfl 8 (by decide) (hts _ (List.mem_cons_of_mem _ (wl_in_0 _ (List.mem_of_getElem? (i := 16) rfl)))) (fun _ h9 => h9) rfl dX12_barring_46 ?_
      have J84_18 : ∀ (z28 : Int) (H : Heap) (locs : List Loc) (ls : Array Slot), (-1 ≤ z28 ∧ z28 ≤ 9) → va_P (dC, dI) vwCl (WM cI cJ cZ q A10) H → va_S AS s.heap H locs → lv_has ls 3 [(1, .int (iI (6 * (A 0 47) + z15))), (0, .ref (q 0))] → W p l e (headSpec ws_mb_X12_barring ({ frames := 5, cells := 0, slots := 0, locals := 113 } : Room)).room s m [.ref (q 0)].toArray below meth c H locs 0 0 Q (F0 m 84 ls [.int (iI z28)]) := by
        intro z28 H locs ls f30 hP hS hl
        refine lv_istore_n (lv' := [(2, .int (iI z28)), (1, .int (iI (6 * (A 0 47) + z15))), (0, .ref (q 0))]) hx hb dX12_barring_84 rfl hl (by decide) rfl (fun ls hl => ?_)
        refine lv_iload_n hx hb dX12_barring_85 rfl (lv_at hl 0 rfl) ?_
        refine lv_iconst (v := iI (-1)) hx hb dX12_barring_86 (by decide +kernel) ?_
        have J116_32 : ∀ (A39 : St) (H : Heap) (locs : List Loc) (ls : Array Slot), IM A39 → fr [] [8, 9] A10 A39 → va_P (dC, dI) vwCl (WM cI cJ cZ q A39) H → va_S AS s.heap H locs → lv_has ls 3 [(2, .int (iI z28)), (1, .int (iI (6 * (A 0 47) + z15))), (0, .ref (q 0))] → W p l e (headSpec ws_mb_X12_barring ({ frames := 5, cells := 0, slots := 0, locals := 113 } : Room)).room s m [.ref (q 0)].toArray below meth c H locs 0 0 Q (F0 m 116 ls []) := by
          intro A39 H locs ls hI hj38 hP hS hl
          refine lv_aload_n hx hb dX12_barring_116 rfl (lv_at hl 2 rfl) ?_
          refine va_get (D := (dC, dI)) (ci := 12) (v := .ref (q 30)) (C := RX12) (T := TX12) (N := 85) hx hb hts hiX12 hown hK hP 0 wm0 rfl 41 (by decide) (hts _ (List.mem_cons_of_mem _ (wl_in_3 _ (List.mem_of_getElem? (i := 26) rfl)))) (fun _ h9 => h9) rfl dX12_barring_117 ?_
          refine lv_iload_n hx hb dX12_barring_120 rfl (lv_at hl 1 rfl) ?_
          refine lv_aload_n hx hb dX12_barring_121 rfl (lv_at hl 2 rfl) ?_
          refine lv_iconst (v := iI 1) hx hb dX12_barring_122 (by decide +kernel) ?_
          have e_A39_3 : A39 0 3 = (A10 0 3) := (hj38.2 3 rfl)
          have r_A10_0_3 : (0 : Int) ≤ (A10 0 3) ∧ (A10 0 3) ≤ 3 := by rw [← e_A39_3]; exact hI 0 3
          have e_A39_4 : A39 0 4 = (A10 0 4) := (hj38.2 4 rfl)
          have e_A39_7 : A39 0 7 = (A10 0 7) := (hj38.2 7 rfl)
          have r_A10_0_7 : (-9223372036854775808 : Int) ≤ (A10 0 7) ∧ (A10 0 7) ≤ 9223372036854775807 := by rw [← e_A39_7]; exact hI 0 7
          have r_A39_0_8 : (0 : Int) ≤ (A39 0 8) ∧ (A39 0 8) ≤ 5 := hI 0 8
          have e_A39_47 : A39 0 47 = (A 0 47) := (hj38.2 47 rfl).trans e_A10_47
          refine x_calli (As := [.int (iI 1)]) (rest := [.int (iI (6 * (A 0 47) + z15)), .ref (q 30)]) ⟨hx, hb, hml, hown, hts⟩ (mb_X12_asked_1 l dC dI cB cI cJ cZ cQ q _ 1 hI ⟨by decide, by decide⟩ (CB.fr hc13 hj38 rfl rfl)) (cwV 1 hts (goodV (wl_in_2 _ (List.mem_of_getElem? (i := 47) rfl)) (wl_in_2 _ (List.mem_of_getElem? (i := 48) rfl)) (wl_in_2 _ (List.mem_of_getElem? (i := 49) rfl)) (wl_in_0 _ (List.mem_of_getElem? (i := 8) rfl)) (wl_in_2 _ (List.mem_of_getElem? (i := 29) rfl))) rfl rfl rfl (by decide +kernel) ⟨Nat.le_of_ble_eq_true rfl, Nat.le_of_ble_eq_true rfl⟩) hK hDD hA0 hP hS 0 12 wm0 rfl rfl hl.1 (Nat.le_of_ble_eq_true rfl) dX12_barring_123 (fun z40 A41 H locs hw42 hP hS => ?_)
          obtain ⟨hI, hf43, hw42⟩ := hw42
          obtain ⟨hc44, hw42⟩ := hw42
          have r_A41_0_4 : (0 : Int) ≤ (A41 0 4) ∧ (A41 0 4) ≤ 1600 := hI 0 4
          have r_A41_0_8 : (0 : Int) ≤ (A41 0 8) ∧ (A41 0 8) ≤ 5 := hI 0 8
          refine x_iast hx hb hK hP hDD hS 30 1 wm30 rfl (by omega) (by decide) dX12_barring_126 ws30 (fun H locs hP hS => ?_)
          have hI := hI.st (j := 30) (i := (6 * (A 0 47) + z15).toNat) (v := z40) (show (0 : Int) ≤ z40 ∧ z40 ≤ 9 from (by omega))
          refine lv_aload_n hx hb dX12_barring_127 rfl (lv_at hl 2 rfl) ?_
          refine lv_ldc2 (v := 2003330414) hx hb hown (hts _ (List.mem_cons_of_mem _ (wl_in_0 _ (List.mem_of_getElem? (i := 59) rfl)))) dX12_barring_128 ?_
          refine tp_l (y := jI 2003330414) (by decide +kernel) ?_
          obtain ⟨A45, hA45⟩ : ∃ A45 : St, A45 = (stA A41 30 (6 * (A 0 47) + z15).toNat z40) := ⟨_, rfl⟩
          rw [← hA45] at hP hI
          have e_A45_4 : A45 0 4 = (A41 0 4) := by rw [hA45]; exact rfl
          refine x_callv (As := [.long (jI 2003330414)]) (rest := []) ⟨hx, hb, hml, hown, hts⟩ (mb_X12_must_ l dC dI cB cI cJ cZ cQ q _ 2003330414 hI ⟨by decide, by decide⟩ (CB.fr hc44 (fr_def hA45 (fr.st (fr.rf (M := [30]) (N := [])) (by decide) rfl)) rfl rfl)) (cwV 1 hts (goodV (wl_in_2 _ (List.mem_of_getElem? (i := 44) rfl)) (wl_in_2 _ (List.mem_of_getElem? (i := 45) rfl)) (wl_in_2 _ (List.mem_of_getElem? (i := 46) rfl)) (wl_in_0 _ (List.mem_of_getElem? (i := 8) rfl)) (wl_in_2 _ (List.mem_of_getElem? (i := 21) rfl))) rfl rfl rfl (by decide +kernel) ⟨Nat.le_of_ble_eq_true rfl, Nat.le_of_ble_eq_true rfl⟩) hK hDD hA0 hP hS 0 12 wm0 rfl rfl hl.1 (Nat.le_of_ble_eq_true rfl) dX12_barring_131 (fun A46 H locs hw47 hP hS => ?_)
          obtain ⟨hI, hf48, hw47⟩ := hw47
          obtain ⟨hc49, hw47⟩ := hw47
          have r_A46_0_4 : (0 : Int) ≤ (A46 0 4) ∧ (A46 0 4) ≤ 1600 := hI 0 4
          have hIa := hI
          refine lv_aload_n hx hb dX12_barring_134 rfl (lv_at hl 2 rfl) ?_
          refine va_get (D := (dC, dI)) (ci := 12) (v := .ref (q 31)) (C := RX12) (T := TX12) (N := 85) hx hb hts hiX12 hown hK hP 0 wm0 rfl 42 (by decide) (hts _ (List.mem_cons_of_mem _ (wl_in_3 _ (List.mem_of_getElem? (i := 27) rfl)))) (fun _ h9 => h9) rfl dX12_barring_135 ?_
          refine lv_iload_n hx hb dX12_barring_138 rfl (lv_at hl 1 rfl) ?_
          refine lv_aload_n hx hb dX12_barring_139 rfl (lv_at hl 2 rfl) ?_
          have e_A10_46 : A10 0 46 = (A 0 46) := (hf12.2 46 rfl)
          have e_A39_46 : A39 0 46 = (A 0 46) := (hj38.2 46 rfl).trans e_A10_46
          have e_A41_46 : A41 0 46 = (A 0 46) := (hf43.2 46 rfl).trans e_A39_46
          have e_A45_46 : A45 0 46 = (A 0 46) := by rw [hA45]; exact e_A41_46
          have e_A46_46 : A46 0 46 = (A 0 46) := (hf48.2 46 rfl).trans e_A45_46
          refine va_get (D := (dC, dI)) (ci := 12) (v := .int (iI (A46 0 46))) (C := RX12) (T := TX12) (N := 85) hx hb hts hiX12 hown hK hP 0 wm0 rfl 46 (by decide) (hts _ (List.mem_cons_of_mem _ (wl_in_1 _ (List.mem_of_getElem? (i := 31) rfl)))) (fun _ h9 => h9) rfl dX12_barring_140 ?_
          refine tp_i (y := iI (A 0 46)) (congrArg iI e_A46_46) ?_
          have r_A_0_46 : (0 : Int) ≤ (A 0 46) ∧ (A 0 46) ≤ 1600 := by rw [← e_A46_46]; exact hI 0 46
          refine x_iast hx hb hK hP hDD hS 31 1 wm31 rfl (by omega) (by decide) dX12_barring_143 ws31 (fun H locs hP hS => ?_)
          have hI := hI.st (j := 31) (i := (6 * (A 0 47) + z15).toNat) (v := (A 0 46)) (show (0 : Int) ≤ (A 0 46) ∧ (A 0 46) ≤ 1600 from (by omega))
          obtain ⟨A50, hA50⟩ : ∃ A50 : St, A50 = (stA A46 31 (6 * (A 0 47) + z15).toNat (A 0 46)) := ⟨_, rfl⟩
          rw [← hA50] at hP hI
          have g31 : A50 31 = up (A46 31) (6 * (A 0 47) + z15).toNat (A 0 46) := by rw [hA50]; rfl
          have ca52 : A10 29 = A 29 := (hf12.1 29 (by decide) rfl)
          have ca53 : A39 29 = A 29 := (hj38.1 29 (by decide) rfl).trans ca52
          have ca54 : A41 29 = A 29 := (hf43.1 29 (by decide) rfl).trans ca53
          have ca55 : A45 29 = A 29 := by rw [hA45]; exact ca54
          have ca56 : A46 29 = A 29 := (hf48.1 29 (by decide) rfl).trans ca55
          have e_A41_47 : A41 0 47 = (A 0 47) := (hf43.2 47 rfl).trans e_A39_47
          have e_A45_47 : A45 0 47 = (A 0 47) := by rw [hA45]; exact e_A41_47
          have e_A46_47 : A46 0 47 = (A 0 47) := (hf48.2 47 rfl).trans e_A45_47
          have ca57 : A10 29 = A 29 := (hf12.1 29 (by decide) rfl)
          have ca58 : A39 29 = A 29 := (hj38.1 29 (by decide) rfl).trans ca57
          have ca59 : A41 29 = A 29 := (hf43.1 29 (by decide) rfl).trans ca58
          have ca60 : A45 29 = A 29 := by rw [hA45]; exact ca59
          have ca61 : A46 29 = A 29 := (hf48.1 29 (by decide) rfl).trans ca60
          have hc51 : CI A50 := CI.s31 (v := (A 0 46)) (CI.fr (CI.fr (CI.fr (CI.fr (CI.fr hcCI hf12 rfl rfl) hj38 rfl rfl) hf43 rfl rfl) (fr_def hA45 (fr.st (fr.rf (M := [30]) (N := [])) (by decide) rfl)) rfl rfl) hf48 rfl rfl) hIa (by rw [ca56, e_A46_47]; have g := f8.out; omega) (by rw [hA50]; rfl) (g31.trans (by rw [show 6 * A46 0 47 + A46 29 (A46 0 47).toNat = 6 * (A 0 47) + z15 by rw [ca61, e_A46_47]; omega])) (by rw [hA50]; rfl) (by rw [hA50]; rfl) (by rw [hA50]; rfl) (by rw [hA50]; rfl)
          refine lv_aload_n hx hb dX12_barring_144 rfl (lv_at hl 2 rfl) ?_
          have e_A50_8 : A50 0 8 = (A46 0 8) := by rw [hA50]; exact rfl
          refine va_get (D := (dC, dI)) (ci := 12) (v := .int (iI (A50 0 8))) (C := RX12) (T := TX12) (N := 85) hx hb hts hiX12 hown hK hP 0 wm0 rfl 8 (by decide) (hts _ (List.mem_cons_of_mem _ (wl_in_0 _ (List.mem_of_getElem? (i := 16) rfl)))) (fun _ h9 => h9) rfl dX12_barring_145 ?_
          refine tp_i (y := iI (A46 0 8)) (congrArg iI e_A50_8) ?_
          have r_A46_0_8 : (0 : Int) ≤ (A46 0 8) ∧ (A46 0 8) ≤ 5 := by rw [← e_A50_8]; exact hI 0 8
          have J156_63 : ∀ (A75 : St) (H : Heap) (locs : List Loc) (ls : Array Slot), (Hd ((A75 0 8) = 0 → DP (A75 33) (sA A75) (1600 * A75 0 47 + A75 0 46) 1 ∧ CB A75 ∧ A 0 5 ≤ (A75 0 4))) → (CI A75) → IM A75 → fr [33, 34, 35, 36, 37, 38, 39, 40] [3, 4, 5, 6, 7, 8, 9, 46, 53, 54, 56, 57] A50 A75 → va_P (dC, dI) vwCl (WM cI cJ cZ q A75) H → va_S AS s.heap H locs → lv_has ls 3 [(2, .int (iI z28)), (1, .int (iI (6 * (A 0 47) + z15))), (0, .ref (q 0))] → W p l e (headSpec ws_mb_X12_barring ({ frames := 5, cells := 0, slots := 0, locals := 113 } : Room)).room s m [.ref (q 0)].toArray below meth c H locs 0 0 Q (F0 m 156 ls []) := by
            intro A75 H locs ls f76 hc77 hI hj74 hP hS hl
            have hIb := hI
            refine lv_aload_n hx hb dX12_barring_156 rfl (lv_at hl 2 rfl) ?_
            refine va_get (D := (dC, dI)) (ci := 12) (v := .ref (q 32)) (C := RX12) (T := TX12) (N := 85) hx hb hts hiX12 hown hK hP 0 wm0 rfl 43 (by decide) (hts _ (List.mem_cons_of_mem _ (wl_in_3 _ (List.mem_of_getElem? (i := 28) rfl)))) (fun _ h9 => h9) rfl dX12_barring_157 ?_
            refine lv_iload_n hx hb dX12_barring_160 rfl (lv_at hl 1 rfl) ?_
            refine lv_aload_n hx hb dX12_barring_161 rfl (lv_at hl 2 rfl) ?_
            refine va_get (D := (dC, dI)) (ci := 12) (v := .int (iI (A75 0 46))) (C := RX12) (T := TX12) (N := 85) hx hb hts hiX12 hown hK hP 0 wm0 rfl 46 (by decide) (hts _ (List.mem_cons_of_mem _ (wl_in_1 _ (List.mem_of_getElem? (i := 31) rfl)))) (fun _ h9 => h9) rfl dX12_barring_162 ?_
            have r_A75_0_46 : (0 : Int) ≤ (A75 0 46) ∧ (A75 0 46) ≤ 1600 := hI 0 46
            refine x_iast hx hb hK hP hDD hS 32 1 wm32 rfl (by omega) (by decide) dX12_barring_165 ws32 (fun H locs hP hS => ?_)
            have hI := hI.st (j := 32) (i := (6 * (A 0 47) + z15).toNat) (v := (A75 0 46)) (show (0 : Int) ≤ (A75 0 46) ∧ (A75 0 46) ≤ 1600 from (by omega))
            obtain ⟨A78, hA78⟩ : ∃ A78 : St, A78 = (stA A75 32 (6 * (A 0 47) + z15).toNat (A75 0 46)) := ⟨_, rfl⟩
            rw [← hA78] at hP hI
            have g32 : A78 32 = up (A75 32) (6 * (A 0 47) + z15).toNat (A75 0 46) := by rw [hA78]; rfl
            have ca80 : A10 29 = A 29 := (hf12.1 29 (by decide) rfl)
            have ca81 : A39 29 = A 29 := (hj38.1 29 (by decide) rfl).trans ca80
            have ca82 : A41 29 = A 29 := (hf43.1 29 (by decide) rfl).trans ca81
            have ca83 : A45 29 = A 29 := by rw [hA45]; exact ca82
            have ca84 : A46 29 = A 29 := (hf48.1 29 (by decide) rfl).trans ca83
            have ca85 : A50 29 = A 29 := by rw [hA50]; exact ca84
            have ca86 : A75 29 = A 29 := (hj74.1 29 (by decide) rfl).trans ca85
            have e_A50_47 : A50 0 47 = (A 0 47) := by rw [hA50]; exact e_A46_47
            have e_A75_47 : A75 0 47 = (A 0 47) := (hj74.2 47 rfl).trans e_A50_47
            have ca87 : A10 29 = A 29 := (hf12.1 29 (by decide) rfl)
            have ca88 : A39 29 = A 29 := (hj38.1 29 (by decide) rfl).trans ca87
            have ca89 : A41 29 = A 29 := (hf43.1 29 (by decide) rfl).trans ca88
            have ca90 : A45 29 = A 29 := by rw [hA45]; exact ca89
            have ca91 : A46 29 = A 29 := (hf48.1 29 (by decide) rfl).trans ca90
            have ca92 : A50 29 = A 29 := by rw [hA50]; exact ca91
            have ca93 : A75 29 = A 29 := (hj74.1 29 (by decide) rfl).trans ca92
            have hc79 : CI A78 := CI.s32 (v := (A75 0 46)) hc77 hIb (by rw [ca86, e_A75_47]; have g := f8.out; omega) (by rw [hA78]; rfl) (by rw [hA78]; rfl) (g32.trans (by rw [show 6 * A75 0 47 + A75 29 (A75 0 47).toNat = 6 * (A 0 47) + z15 by rw [ca93, e_A75_47]; omega])) (by rw [hA78]; rfl) (by rw [hA78]; rfl) (by rw [hA78]; rfl)
            have hIc := hI
            refine lv_aload_n hx hb dX12_barring_166 rfl (lv_at hl 2 rfl) ?_
            have e_A78_8 : A78 0 8 = (A75 0 8) := by rw [hA78]; exact rfl
            refine va_get (D := (dC, dI)) (ci := 12) (v := .int (iI (A78 0 8))) (C := RX12) (T := TX12) (N := 85) hx hb hts hiX12 hown hK hP 0 wm0 rfl 8 (by decide) (hts _ (List.mem_cons_of_mem _ (wl_in_0 _ (List.mem_of_getElem? (i := 16) rfl)))) (fun _ h9 => h9) rfl dX12_barring_167 ?_
            refine tp_i (y := iI (A75 0 8)) (congrArg iI e_A78_8) ?_
            have r_A75_0_8 : (0 : Int) ≤ (A75 0 8) ∧ (A75 0 8) ≤ 5 := by rw [← e_A78_8]; exact hI 0 8
            refine lv_if_ne (tgt := 186) hx hb dX12_barring_170 (by decide) (fun c94 => ?_) (fun c94 => ?_)
            · have c94 : ¬ (A75 0 8) = 0 := mt (i_eq0 (rb r_A75_0_8 (by decide) (by decide))).mpr c94
              have e_A78_4 : A78 0 4 = (A75 0 4) := by rw [hA78]; exact rfl
              have r_A75_0_4 : (0 : Int) ≤ (A75 0 4) ∧ (A75 0 4) ≤ 1600 := by rw [← e_A78_4]; exact hI 0 4
              have e_A78_5 : A78 0 5 = (A75 0 5) := by rw [hA78]; exact rfl
              have r_A75_0_5 : (0 : Int) ≤ (A75 0 5) ∧ (A75 0 5) ≤ 1600 := by rw [← e_A78_5]; exact hI 0 5
              exact RET _ _ _ _ _ ⟨hI, fr_def hA78 (fr.st (fr.trans (fr_def hA50 (fr.st (fr.trans (fr_def hA45 (fr.st (fr.trans (fr.trans (fr.trans (fr.rf) hf12 rfl rfl) hj38 rfl rfl) hf43 rfl rfl) (by decide) rfl)) hf48 rfl rfl) (by decide) rfl)) hj74 rfl rfl) (by decide) rfl), hc79, Hd.mk (fun h0 => ⟨(CB.fr (f76.out (by omega)).2.1 (fr_def hA78 (fr.st (fr.rf (M := [32]) (N := [])) (by decide) rfl)) rfl rfl), by have g := (f76.out (by omega)).2.2; omega⟩)⟩ hP hS dX12_barring_186
            · have c94 : (A75 0 8) = 0 := (i_eq0 (rb r_A75_0_8 (by decide) (by decide))).mp c94
              refine lv_aload_n hx hb dX12_barring_173 rfl (lv_at hl 2 rfl) ?_
              refine va_get (D := (dC, dI)) (ci := 12) (v := .ref (q 29)) (C := RX12) (T := TX12) (N := 85) hx hb hts hiX12 hown hK hP 0 wm0 rfl 40 (by decide) (hts _ (List.mem_cons_of_mem _ (wl_in_3 _ (List.mem_of_getElem? (i := 25) rfl)))) (fun _ h9 => h9) rfl dX12_barring_174 ?_
              refine lv_aload_n hx hb dX12_barring_177 rfl (lv_at hl 2 rfl) ?_
              have e_A78_47 : A78 0 47 = (A 0 47) := by rw [hA78]; exact e_A75_47
              refine va_get (D := (dC, dI)) (ci := 12) (v := .int (iI (A78 0 47))) (C := RX12) (T := TX12) (N := 85) hx hb hts hiX12 hown hK hP 0 wm0 rfl 47 (by decide) (hts _ (List.mem_cons_of_mem _ (wl_in_1 _ (List.mem_of_getElem? (i := 12) rfl)))) (fun _ h9 => h9) rfl dX12_barring_178 ?_
              refine tp_i (y := iI (A 0 47)) (congrArg iI e_A78_47) ?_
              refine lv_dup2_11 hx hb dX12_barring_181 rfl rfl ?_
              have a_A39_29 : A39 29 = A 29 := (hj38.1 29 (by decide) rfl).trans a_A10_29
              have a_A41_29 : A41 29 = A 29 := (hf43.1 29 (by decide) rfl).trans a_A39_29
              have a_A45_29 : A45 29 = A 29 := by rw [hA45]; exact a_A41_29
              have a_A46_29 : A46 29 = A 29 := (hf48.1 29 (by decide) rfl).trans a_A45_29
              have a_A50_29 : A50 29 = A 29 := by rw [hA50]; exact a_A46_29
              have a_A75_29 : A75 29 = A 29 := (hj74.1 29 (by decide) rfl).trans a_A50_29
              have a_A78_29 : A78 29 = A 29 := by rw [hA78]; exact a_A75_29
              refine x_iald hx hb hK hP 29 1 wm29 rfl (by omega) (by decide) dX12_barring_182 (fun z95 hz95 => ?_)
              have rz95 : (0 : Int) ≤ z95 ∧ z95 ≤ 6 := by rw [hz95]; exact hI 29 _
              have hz95 : z95 = A 29 ((A 0 47)).toNat := hz95.trans (congrFun a_A78_29 _)
              have ez95 : z95 = z1 := hz95.trans hz1.symm
              refine lv_iconst (v := iI 1) hx hb dX12_barring_183 (by decide +kernel) ?_
              refine x_addv (v := z95 + 1) hx hb dX12_barring_184 (by omega) ?_
              refine x_iast hx hb hK hP hDD hS 29 1 wm29 rfl (by omega) (by decide) dX12_barring_185 ws29 (fun H locs hP hS => ?_)
              have hI := hI.st (j := 29) (i := ((A 0 47)).toNat) (v := z95 + 1) (show (0 : Int) ≤ z95 + 1 ∧ z95 + 1 ≤ 6 from (by omega))
              have e_A78_3 : A78 0 3 = (A75 0 3) := by rw [hA78]; exact rfl
              have e_A78_4 : A78 0 4 = (A75 0 4) := by rw [hA78]; exact rfl
              have e_A78_5 : A78 0 5 = (A75 0 5) := by rw [hA78]; exact rfl
              have e_A78_7 : A78 0 7 = (A75 0 7) := by rw [hA78]; exact rfl
              have e_A78_46 : A78 0 46 = (A75 0 46) := by rw [hA78]; exact rfl
              have e_A78_53 : A78 0 53 = (A75 0 53) := by rw [hA78]; exact rfl
              have e_A78_54 : A78 0 54 = (A75 0 54) := by rw [hA78]; exact rfl
              have e_A78_56 : A78 0 56 = (A75 0 56) := by rw [hA78]; exact rfl
              have r_A75_0_3 : (0 : Int) ≤ (A75 0 3) ∧ (A75 0 3) ≤ 3 := by rw [← e_A78_3]; exact hI 0 3
              have r_A75_0_4 : (0 : Int) ≤ (A75 0 4) ∧ (A75 0 4) ≤ 1600 := by rw [← e_A78_4]; exact hI 0 4
              have r_A75_0_5 : (0 : Int) ≤ (A75 0 5) ∧ (A75 0 5) ≤ 1600 := by rw [← e_A78_5]; exact hI 0 5
              have r_A75_0_7 : (-9223372036854775808 : Int) ≤ (A75 0 7) ∧ (A75 0 7) ≤ 9223372036854775807 := by rw [← e_A78_7]; exact hI 0 7
              have r_A75_0_53 : (0 : Int) ≤ (A75 0 53) ∧ (A75 0 53) ≤ 20 := by rw [← e_A78_53]; exact hI 0 53
              have r_A75_0_54 : (0 : Int) ≤ (A75 0 54) ∧ (A75 0 54) ≤ 8 := by rw [← e_A78_54]; exact hI 0 54
              have r_A75_0_56 : (0 : Int) ≤ (A75 0 56) ∧ (A75 0 56) ≤ 500 := by rw [← e_A78_56]; exact hI 0 56
              obtain ⟨A96, hA96⟩ : ∃ A96 : St, A96 = (stA A78 29 ((A 0 47)).toNat (z95 + 1)) := ⟨_, rfl⟩
              rw [← hA96] at hP hI
              have gd := (f76.out (by omega)).1
              have ca97 : A78 29 = A75 29 := by rw [hA78]; exact rfl
              have ca98 : A78 31 = A75 31 := by rw [hA78]; exact rfl
              have ca99 : A78 33 = A75 33 := by rw [hA78]; exact rfl
              have gd2 := DPt (A := A75) (B := A78) ca97 ca98 ca99 e_A78_46 (e_A78_47.trans e_A75_47.symm) gd
              have g29 : A96 29 = up (A78 29) (A 0 47).toNat (z95 + 1) := by rw [hA96]; rfl
              have ca101 : A10 29 = A 29 := (hf12.1 29 (by decide) rfl)
              have ca102 : A39 29 = A 29 := (hj38.1 29 (by decide) rfl).trans ca101
              have ca103 : A41 29 = A 29 := (hf43.1 29 (by decide) rfl).trans ca102
              have ca104 : A45 29 = A 29 := by rw [hA45]; exact ca103
              have ca105 : A46 29 = A 29 := (hf48.1 29 (by decide) rfl).trans ca104
              have ca106 : A50 29 = A 29 := by rw [hA50]; exact ca105
              have ca107 : A75 29 = A 29 := (hj74.1 29 (by decide) rfl).trans ca106
              have ca108 : A78 29 = A 29 := by rw [hA78]; exact ca107
              have ca109 : A10 29 = A 29 := (hf12.1 29 (by decide) rfl)
              have ca110 : A39 29 = A 29 := (hj38.1 29 (by decide) rfl).trans ca109
              have ca111 : A41 29 = A 29 := (hf43.1 29 (by decide) rfl).trans ca110
              have ca112 : A45 29 = A 29 := by rw [hA45]; exact ca111
              have ca113 : A46 29 = A 29 := (hf48.1 29 (by decide) rfl).trans ca112
              have ca114 : A50 29 = A 29 := by rw [hA50]; exact ca113
              have ca115 : A75 29 = A 29 := (hj74.1 29 (by decide) rfl).trans ca114
              have ca116 : A78 29 = A 29 := by rw [hA78]; exact ca115
              have hc100 : CI A96 := CI.inc hc79 hIc (g29.trans (by rw [e_A78_47, show z95 + 1 = A78 29 (A 0 47).toNat + 1 by rw [ca108]; omega])) (by rw [hA96]; rfl) (by rw [hA96]; rfl) (by rw [hA96]; rfl) (by rw [hA96]; rfl) (by rw [hA96]; rfl) (by rw [show 6 * A78 0 47 + A78 29 (A78 0 47).toNat = 6 * (A 0 47) + z15 by rw [ca116, e_A78_47]; omega, g32, up_same]; omega) gd2
              have e_A96_4 : A96 0 4 = (A75 0 4) := by rw [hA96]; exact e_A78_4
              have e_A96_5 : A96 0 5 = (A75 0 5) := by rw [hA96]; exact e_A78_5
              have e_A96_8 : A96 0 8 = (A75 0 8) := by rw [hA96]; exact e_A78_8
              exact RET _ _ _ _ _ ⟨hI, fr_def hA96 (fr.st (fr_def hA78 (fr.st (fr.trans (fr_def hA50 (fr.st (fr.trans (fr_def hA45 (fr.st (fr.trans (fr.trans (fr.trans (fr.rf) hf12 rfl rfl) hj38 rfl rfl) hf43 rfl rfl) (by decide) rfl)) hf48 rfl rfl) (by decide) rfl)) hj74 rfl rfl) (by decide) rfl)) (by decide) rfl), hc100, Hd.mk (fun h0 => ⟨(CB.fr (CB.fr (f76.out (by omega)).2.1 (fr_def hA78 (fr.st (fr.rf (M := [32]) (N := [])) (by decide) rfl)) rfl rfl) (fr_def hA96 (fr.st (fr.rf (M := [29]) (N := [])) (by decide) rfl)) rfl rfl), by have g := (f76.out (by omega)).2.2; omega⟩)⟩ hP hS dX12_barring_186
          refine lv_if_ne (tgt := 156) hx hb dX12_barring_148 (by decide) (fun c62 => ?_) (fun c62 => ?_)
          · have c62 : ¬ (A46 0 8) = 0 := mt (i_eq0 (rb r_A46_0_8 (by decide) (by decide))).mpr c62
            have e_A50_4 : A50 0 4 = (A46 0 4) := by rw [hA50]; exact rfl
            exact J156_63 _ _ _ _ (by exact Hd.mk (fun h => absurd h (by omega))) hc51 hI (fr.rf) hP hS (lv_sub hl [0, 1, 2] rfl)
          · have c62 : (A46 0 8) = 0 := (i_eq0 (rb r_A46_0_8 (by decide) (by decide))).mp c62
            refine lv_aload_n hx hb dX12_barring_151 rfl (lv_at hl 2 rfl) ?_
            refine lv_iconst (v := iI 1) hx hb dX12_barring_152 (by decide +kernel) ?_
            have e_A50_46 : A50 0 46 = (A 0 46) := by rw [hA50]; exact e_A46_46
            have e_A50_47 : A50 0 47 = (A 0 47) := by rw [hA50]; exact e_A46_47
            have e_A50_4 : A50 0 4 = (A46 0 4) := by rw [hA50]; exact rfl
            have e_A50_3 : A50 0 3 = (A46 0 3) := by rw [hA50]; exact rfl
            have e_A50_5 : A50 0 5 = (A46 0 5) := by rw [hA50]; exact rfl
            have e_A50_7 : A50 0 7 = (A46 0 7) := by rw [hA50]; exact rfl
            have e_A10_53 : A10 0 53 = (A 0 53) := (hf12.2 53 rfl)
            have e_A39_53 : A39 0 53 = (A 0 53) := (hj38.2 53 rfl).trans e_A10_53
            have e_A41_53 : A41 0 53 = (A 0 53) := (hf43.2 53 rfl).trans e_A39_53
            have e_A45_53 : A45 0 53 = (A 0 53) := by rw [hA45]; exact e_A41_53
            have e_A46_53 : A46 0 53 = (A 0 53) := (hf48.2 53 rfl).trans e_A45_53
            have e_A50_53 : A50 0 53 = (A 0 53) := by rw [hA50]; exact e_A46_53
            have e_A10_54 : A10 0 54 = (A 0 54) := (hf12.2 54 rfl)
            have e_A39_54 : A39 0 54 = (A 0 54) := (hj38.2 54 rfl).trans e_A10_54
            have e_A41_54 : A41 0 54 = (A 0 54) := (hf43.2 54 rfl).trans e_A39_54
            have e_A45_54 : A45 0 54 = (A 0 54) := by rw [hA45]; exact e_A41_54
            have e_A46_54 : A46 0 54 = (A 0 54) := (hf48.2 54 rfl).trans e_A45_54
            have e_A50_54 : A50 0 54 = (A 0 54) := by rw [hA50]; exact e_A46_54
            have e_A10_56 : A10 0 56 = (A 0 56) := (hf12.2 56 rfl)
            have e_A39_56 : A39 0 56 = (A 0 56) := (hj38.2 56 rfl).trans e_A10_56
            have e_A41_56 : A41 0 56 = (A 0 56) := (hf43.2 56 rfl).trans e_A39_56
            have e_A45_56 : A45 0 56 = (A 0 56) := by rw [hA45]; exact e_A41_56
            have e_A46_56 : A46 0 56 = (A 0 56) := (hf48.2 56 rfl).trans e_A45_56
            have e_A50_56 : A50 0 56 = (A 0 56) := by rw [hA50]; exact e_A46_56
            have r_A46_0_3 : (0 : Int) ≤ (A46 0 3) ∧ (A46 0 3) ≤ 3 := by rw [← e_A50_3]; exact hI 0 3
            have r_A46_0_5 : (0 : Int) ≤ (A46 0 5) ∧ (A46 0 5) ≤ 1600 := by rw [← e_A50_5]; exact hI 0 5
            have r_A46_0_7 : (-9223372036854775808 : Int) ≤ (A46 0 7) ∧ (A46 0 7) ≤ 9223372036854775807 := by rw [← e_A50_7]; exact hI 0 7
            have r_A_0_53 : (0 : Int) ≤ (A 0 53) ∧ (A 0 53) ≤ 20 := by rw [← e_A50_53]; exact hI 0 53
            have r_A_0_54 : (0 : Int) ≤ (A 0 54) ∧ (A 0 54) ≤ 8 := by rw [← e_A50_54]; exact hI 0 54
            have r_A_0_56 : (0 : Int) ≤ (A 0 56) ∧ (A 0 56) ≤ 500 := by rw [← e_A50_56]; exact hI 0 56
            have ca64 : A10 29 = A 29 := (hf12.1 29 (by decide) rfl)
            have ca65 : A39 29 = A 29 := (hj38.1 29 (by decide) rfl).trans ca64
            have ca66 : A41 29 = A 29 := (hf43.1 29 (by decide) rfl).trans ca65
            have ca67 : A45 29 = A 29 := by rw [hA45]; exact ca66
            have ca68 : A46 29 = A 29 := (hf48.1 29 (by decide) rfl).trans ca67
            have ca69 : A50 29 = A 29 := by rw [hA50]; exact ca68
            refine x_callv (As := [.int (iI 1)]) (rest := []) ⟨hx, hb, hml, hown, hts⟩ (mb_X12_reads l dC dI cB cI cJ cZ cQ q _ 1 hI ⟨by decide, by decide⟩ (by exact (CB.fr hc49 (fr_def hA50 (fr.st (fr.rf (M := [31]) (N := [])) (by decide) rfl)) rfl rfl)) (by rw [show 6 * A50 0 47 + A50 29 (A50 0 47).toNat = 6 * (A 0 47) + z15 by rw [ca69, e_A50_47]; omega, g31, up_same]; omega) hc51) (cwV 1 hts (goodV (wl_in_3 _ (List.mem_of_getElem? (i := 29) rfl)) (wl_in_3 _ (List.mem_of_getElem? (i := 30) rfl)) (wl_in_3 _ (List.mem_of_getElem? (i := 31) rfl)) (wl_in_0 _ (List.mem_of_getElem? (i := 8) rfl)) (wl_in_2 _ (List.mem_of_getElem? (i := 13) rfl))) rfl rfl rfl (by decide +kernel) ⟨Nat.le_of_ble_eq_true rfl, Nat.le_of_ble_eq_true rfl⟩) hK hDD hA0 hP hS 0 12 wm0 rfl rfl hl.1 (Nat.le_of_ble_eq_true rfl) dX12_barring_153 (fun A70 H locs hw71 hP hS => ?_)
            obtain ⟨hI, hf72, hw71⟩ := hw71
            obtain ⟨hc73, hw71⟩ := hw71
            have r_A70_0_4 : (0 : Int) ≤ (A70 0 4) ∧ (A70 0 4) ≤ 1600 := hI 0 4
            have r_A70_0_8 : (0 : Int) ≤ (A70 0 8) ∧ (A70 0 8) ≤ 5 := hI 0 8
            have r_A70_0_46 : (0 : Int) ≤ (A70 0 46) ∧ (A70 0 46) ≤ 1600 := hI 0 46
            have e_A70_47 : A70 0 47 = (A 0 47) := (hf72.2 47 rfl).trans e_A50_47
            exact J156_63 _ _ _ _ (by exact Hd.mk (fun h0 => by have g := hw71.out (by omega); exact ⟨g.1, g.2.1, by have := g.2.2; omega⟩)) hc73 hI (fr.trans (fr.rf) hf72 rfl rfl) hP hS (lv_sub hl [0, 1, 2] rfl)
        refine lv_icmp_eq (tgt := 116) hx hb dX12_barring_87 (by decide) (fun c31 => ?_) (fun c31 => ?_)
        · have c31 : z28 = (-1) := (i_eq (rb f30 (by decide) (by decide)) ⟨by decide, by decide⟩).mp c31
          exact J116_32 _ _ _ _ hI (fr.rf) hP hS (lv_sub hl [0, 1, 2] rfl)
        · have c31 : ¬ z28 = (-1) := mt (i_eq (rb f30 (by decide) (by decide)) ⟨by decide, by decide⟩).mpr c31
          refine lv_aload_n hx hb dX12_barring_90 rfl (lv_at hl 2 rfl) ?_
          refine va_get (D := (dC, dI)) (ci := 12) (v := .ref (q 8)) (C := RX12) (T := TX12) (N := 85) hx hb hts hiX12 hown hK hP 0 wm0 rfl 19 (by decide) (hts _ (List.mem_cons_of_mem _ (wl_in_2 _ (List.mem_of_getElem? (i := 41) rfl)))) (fun _ h9 => h9) rfl dX12_barring_91 ?_
          refine lv_bipush (v := iI 10) hx hb dX12_barring_94 (by decide +kernel) ?_
          refine lv_aload_n hx hb dX12_barring_96 rfl (lv_at hl 2 rfl) ?_
          refine va_get (D := (dC, dI)) (ci := 12) (v := .int (iI (A10 0 47))) (C := RX12) (T := TX12) (N := 85) hx hb hts hiX12 hown hK hP 0 wm0 rfl 47 (by decide) (hts _ (List.mem_cons_of_mem _ (wl_in_1 _ (List.mem_of_getElem? (i := 12) rfl)))) (fun _ h9 => h9) rfl dX12_barring_97 ?_
          refine tp_i (y := iI (A 0 47)) (congrArg iI e_A10_47) ?_
          refine x_mulv (v := 10 * (A 0 47)) hx hb dX12_barring_100 (by omega) ?_
          refine lv_iload_n hx hb dX12_barring_101 rfl (lv_at hl 0 rfl) ?_
          refine x_addv (v := 10 * (A 0 47) + z28) hx hb dX12_barring_102 (by omega) ?_
          have a_A10_8 : A10 8 = A 8 := (hf12.1 8 (by decide) rfl)
          refine x_zald hx hb hK hP 8 3 wm8 rfl (by omega) (by decide) dX12_barring_103 (fun z33 hz33 => ?_)
          have rz33 : (0 : Int) ≤ z33 ∧ z33 ≤ 1 := by rw [hz33]; exact hI 8 _
          have hz33 : z33 = A 8 (10 * (A 0 47) + z28).toNat := hz33.trans (congrFun a_A10_8 _)
          refine lv_if_eq (tgt := 116) hx hb dX12_barring_104 (by decide) (fun c34 => ?_) (fun c34 => ?_)
          · have c34 : z33 = 0 := (i_eq0 (rb rz33 (by decide) (by decide))).mp c34
            exact J116_32 _ _ _ _ hI (fr.rf) hP hS (lv_sub hl [0, 1, 2] rfl)
          · have c34 : ¬ z33 = 0 := mt (i_eq0 (rb rz33 (by decide) (by decide))).mpr c34
            refine lv_aload_n hx hb dX12_barring_107 rfl (lv_at hl 2 rfl) ?_
            refine lv_iconst (v := iI 3) hx hb dX12_barring_108 (by decide +kernel) ?_
            refine lv_aload_n hx hb dX12_barring_109 rfl (lv_at hl 2 rfl) ?_
            refine va_get (D := (dC, dI)) (ci := 12) (v := .int (iI (A10 0 4))) (C := RX12) (T := TX12) (N := 85) hx hb hts hiX12 hown hK hP 0 wm0 rfl 4 (by decide) (hts _ (List.mem_cons_of_mem _ (wl_in_0 _ (List.mem_of_getElem? (i := 23) rfl)))) (fun _ h9 => h9) rfl dX12_barring_110 ?_
            refine x_callv (As := [.int (iI 3), .int (iI (A10 0 4))]) (rest := []) ⟨hx, hb, hml, hown, hts⟩ (mc_X12_blame l dC dI cB cI cJ cZ cQ q _ 3 (A10 0 4) hI ⟨by decide, by decide⟩ r_A10_0_4) (cwV 2 hts (goodV (wl_in_0 _ (List.mem_of_getElem? (i := 31) rfl)) (wl_in_0 _ (List.mem_of_getElem? (i := 32) rfl)) (wl_in_0 _ (List.mem_of_getElem? (i := 33) rfl)) (wl_in_0 _ (List.mem_of_getElem? (i := 8) rfl)) (wl_in_0 _ (List.mem_of_getElem? (i := 15) rfl))) rfl rfl rfl (by decide +kernel) ⟨Nat.le_of_ble_eq_true rfl, Nat.le_of_ble_eq_true rfl⟩) hK hDD hA0 hP hS 0 12 wm0 rfl rfl hl.1 (Nat.le_of_ble_eq_true rfl) dX12_barring_113 (fun A35 H locs hw36 hP hS => ?_)
            obtain ⟨hI, hf37, hw36⟩ := hw36
            have r_A35_0_8 : (0 : Int) ≤ (A35 0 8) ∧ (A35 0 8) ≤ 5 := hI 0 8
            exact J116_32 _ _ _ _ hI (fr.trans (fr.rf) hf37 rfl rfl) hP hS (lv_sub hl [0, 1, 2] rfl)
      have J83_17 : ∀ (H : Heap) (locs : List Loc) (ls : Array Slot), va_P (dC, dI) vwCl (WM cI cJ cZ q A10) H → va_S AS s.heap H locs → lv_has ls 3 [(1, .int (iI (6 * (A 0 47) + z15))), (0, .ref (q 0))] → W p l e (headSpec ws_mb_X12_barring ({ frames := 5, cells := 0, slots := 0, locals := 113 } : Room)).room s m [.ref (q 0)].toArray below meth c H locs 0 0 Q (F0 m 83 ls []) := by
        intro H locs ls hP hS hl
        refine lv_iconst (v := iI (-1)) hx hb dX12_barring_83 (by decide +kernel) ?_
        exact J84_18 (-1) _ _ _ (by omega) hP hS (lv_sub hl [0, 1] rfl)
      refine lv_if_ne (tgt := 83) hx hb dX12_barring_49 (by decide) (fun c16 => ?_) (fun c16 => ?_)
      · have c16 : ¬ (A10 0 8) = 0 := mt (i_eq0 (rb r_A10_0_8 (by decide) (by decide))).mpr c16
        exact J83_17 _ _ _ hP hS (lv_sub hl [0, 1] rfl)
      · have c16 : (A10 0 8) = 0 := (i_eq0 (rb r_A10_0_8 (by decide) (by decide))).mp c16
        refine lv_aload_n hx hb dX12_barring_52 rfl (lv_at hl 1 rfl) ?_
        refine va_get (D := (dC, dI)) (ci := 12) (v := .int (iI (A10 0 3))) (C := RX12) (T := TX12) (N := 85) hx hb hts hiX12 hown hK hP 0 wm0 rfl 3 (by decide) (hts _ (List.mem_cons_of_mem _ (wl_in_0 _ (List.mem_of_getElem? (i := 24) rfl)))) (fun _ h9 => h9) rfl dX12_barring_53 ?_
        have r_A10_0_3 : (0 : Int) ≤ (A10 0 3) ∧ (A10 0 3) ≤ 3 := hI 0 3
        refine lv_iconst (v := iI 1) hx hb dX12_barring_56 (by decide +kernel) ?_
        refine lv_icmp_ne (tgt := 83) hx hb dX12_barring_57 (by decide) (fun c19 => ?_) (fun c19 => ?_)
        · have c19 : ¬ (A10 0 3) = 1 := mt (i_eq (rb r_A10_0_3 (by decide) (by decide)) ⟨by decide, by decide⟩).mpr c19
          exact J83_17 _ _ _ hP hS (lv_sub hl [0, 1] rfl)
        · have c19 : (A10 0 3) = 1 := (i_eq (rb r_A10_0_3 (by decide) (by decide)) ⟨by decide, by decide⟩).mp c19
          refine lv_aload_n hx hb dX12_barring_60 rfl (lv_at hl 1 rfl) ?_
          refine lv_aload_n hx hb dX12_barring_61 rfl (lv_at hl 1 rfl) ?_
          refine va_get (D := (dC, dI)) (ci := 12) (v := .long (jI (A10 0 7))) (C := RX12) (T := TX12) (N := 85) hx hb hts hiX12 hown hK hP 0 wm0 rfl 7 (by decide) (hts _ (List.mem_cons_of_mem _ (wl_in_0 _ (List.mem_of_getElem? (i := 26) rfl)))) (fun _ h9 => h9) rfl dX12_barring_62 ?_
          have r_A10_0_7 : (-9223372036854775808 : Int) ≤ (A10 0 7) ∧ (A10 0 7) ≤ 9223372036854775807 := hI 0 7
          refine x_calli (As := [.long (jI (A10 0 7))]) (rest := []) ⟨hx, hb, hml, hown, hts⟩ (mb_X12_isOwn l dC dI cB cI cJ cZ cQ q _ (A10 0 7) hI r_A10_0_7) (cwV 1 hts (goodV (wl_in_2 _ (List.mem_of_getElem? (i := 23) rfl)) (wl_in_2 _ (List.mem_of_getElem? (i := 24) rfl)) (wl_in_2 _ (List.mem_of_getElem? (i := 25) rfl)) (wl_in_0 _ (List.mem_of_getElem? (i := 8) rfl)) (wl_in_0 _ (List.mem_of_getElem? (i := 43) rfl))) rfl rfl rfl (by decide +kernel) ⟨Nat.le_of_ble_eq_true rfl, Nat.le_of_ble_eq_true rfl⟩) hK hDD hA0 hP hS 0 12 wm0 rfl rfl hl.1 (Nat.le_of_ble_eq_true rfl) dX12_barring_65 (fun z20 A21 H locs hw22 hP hS => ?_)
          obtain ⟨rfl, hw22⟩ := hw22
          have rz20 : 0 ≤ z20 ∧ z20 ≤ 1 := hw22.1
          refine lv_if_ne (tgt := 83) hx hb dX12_barring_68 (by decide) (fun c23 => ?_) (fun c23 => ?_)
          · have c23 : ¬ z20 = 0 := mt (i_eq0 (rb rz20 (by decide) (by decide))).mpr c23
            exact J83_17 _ _ _ hP hS (lv_sub hl [0, 1] rfl)
          · have c23 : z20 = 0 := (i_eq0 (rb rz20 (by decide) (by decide))).mp c23
            refine lv_aload_n hx hb dX12_barring_71 rfl (lv_at hl 1 rfl) ?_
            refine lv_iconst (v := iI 1) hx hb dX12_barring_72 (by decide +kernel) ?_
            refine lv_aload_n hx hb dX12_barring_73 rfl (lv_at hl 1 rfl) ?_
            refine va_get (D := (dC, dI)) (ci := 12) (v := .long (jI (A10 0 7))) (C := RX12) (T := TX12) (N := 85) hx hb hts hiX12 hown hK hP 0 wm0 rfl 7 (by decide) (hts _ (List.mem_cons_of_mem _ (wl_in_0 _ (List.mem_of_getElem? (i := 26) rfl)))) (fun _ h9 => h9) rfl dX12_barring_74 ?_
            refine x_calli (As := [.int (iI 1), .long (jI (A10 0 7))]) (rest := []) ⟨hx, hb, hml, hown, hts⟩ (mb_X12_named_1 l dC dI cB cI cJ cZ cQ q _ 1 (A10 0 7) hI ⟨by decide, by decide⟩ r_A10_0_7) (cwV 2 hts (goodV (wl_in_2 _ (List.mem_of_getElem? (i := 26) rfl)) (wl_in_2 _ (List.mem_of_getElem? (i := 27) rfl)) (wl_in_2 _ (List.mem_of_getElem? (i := 28) rfl)) (wl_in_0 _ (List.mem_of_getElem? (i := 8) rfl)) (wl_in_1 _ (List.mem_of_getElem? (i := 10) rfl))) rfl rfl rfl (by decide +kernel) ⟨Nat.le_of_ble_eq_true rfl, Nat.le_of_ble_eq_true rfl⟩) hK hDD hA0 hP hS 0 12 wm0 rfl rfl hl.1 (Nat.le_of_ble_eq_true rfl) dX12_barring_77 (fun z24 A25 H locs hw26 hP hS => ?_)
            obtain ⟨rfl, hw26⟩ := hw26
            have a_A10_5 : A10 5 = A 5 := (hf12.1 5 (by decide) rfl)
            have a_A10_4 : A10 4 = A 4 := (hf12.1 4 (by decide) rfl)
            rw [a_A10_5, a_A10_4, e_A10_47] at hw26
            refine lv_goto (tgt := 84) hx hb dX12_barring_80 (by decide) ?_
            exact J84_18 z24 _ _ _ (by omega) hP hS (lv_sub hl [0, 1] rfl)
    · have c14 : z9 = 0 := (i_eq0 (rb rz9 (by decide) (by decide))).mp c14
      have r_A10_0_5 : (0 : Int) ≤ (A10 0 5) ∧ (A10 0 5) ≤ 1600 := hI 0 5
      exact RET _ _ _ _ _ ⟨hI, fr.trans (fr.rf) hf12 rfl rfl, (CI.fr hcCI hf12 rfl rfl), Hd.mk (fun h => absurd h (by omega))⟩ hP hS dX12_barring_26
  refine lv_icmp_ne (tgt := 19) hx hb dX12_barring_12 (by decide) (fun c2 => ?_) (fun c2 => ?_)
  · have c2 : ¬ z1 = 6 := mt (i_eq (rb rz1 (by decide) (by decide)) ⟨by decide, by decide⟩).mpr c2
    refine lv_iconst (v := iI 0) hx hb dX12_barring_19 (by decide +kernel) ?_
    exact J20_3 0 _ _ _ (by omega) (by omega) (by exact Hd.mk (by  omega)) hP hS (lv_sub hl [0] rfl)
  · have c2 : z1 = 6 := (i_eq (rb rz1 (by decide) (by decide)) ⟨by decide, by decide⟩).mp c2
    refine lv_iconst (v := iI 1) hx hb dX12_barring_15 (by decide +kernel) ?_
    refine lv_goto (tgt := 20) hx hb dX12_barring_16 (by decide) ?_
    exact J20_3 1 _ _ _ (by omega) (by omega) (by exact Hd.mk (by  omega)) hP hS (lv_sub hl [0] rfl)
