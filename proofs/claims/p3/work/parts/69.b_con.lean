def ws_mb_X12_wanting : List Cond := .code yX12_wanting cX12_wanting 5 none :: WX
set_option maxHeartbeats 4000000 in
set_option maxRecDepth 100000 in
theorem mb_X12_wanting (l : Launch) (dC : Nat → ClassId) (dI : Nat → Nat → Nat) (cB cI cJ cZ cQ : ClassId) (q : Nat → Nat) (A : St) (hI : IM A) (hcCB : CB A) (hcWI : WI A) : XMv l yX12_wanting ws_mb_X12_wanting ({ frames := 3, cells := 0, slots := 0, locals := 70 } : Room) (dC, dI) (tyA cB cI cJ cZ cQ) (WM cI cJ cZ q) A [.ref (q 0)] (fun u => IM u ∧ fr [22, 23, 24] [3, 4, 5, 6, 7, 8, 9] A u ∧ CB u ∧ WI u ∧ ((u 0 8 = 0 → A 0 5 ≤ u 0 4) ∧ A 0 4 ≤ u 0 4)) := by
  refine x_metv (cc := cX12_wanting) (maxL := 5) WM_adr (by decide +kernel) rfl (Nat.le_of_ble_eq_true rfl) (fun p e s m below meth c Q AS ls hx hb hml hown hts hK hDD hA0 hP hS hl RET => ?_)
  have hown : s.vm.findClass RX12 = some m.cls := hown
  have hl : lv_has ls 5 [(0, .ref (q 0))] := hl
  have hiX12 : ∀ w ∈ u_ws RX12 TX12 85, w ∈ ws_mb_X12_wanting := fun w h => List.mem_cons_of_mem _ (wx_lay w h)
  obtain ⟨H, hHe⟩ : ∃ H : Heap, H = s.heap := ⟨_, rfl⟩
  rw [← hHe] at hP
  have hS : va_S AS s.heap H [] := by rw [hHe]; exact hS
  suffices hgo : ∀ locs : List Loc, va_S AS s.heap H locs → W p l e (headSpec ws_mb_X12_wanting ({ frames := 3, cells := 0, slots := 0, locals := 70 } : Room)).room s m [.ref (q 0)].toArray below meth c H locs 0 0 Q (F0 m 0 ls []) by
    have := hgo [] hS
    rw [hHe] at this
    exact this
  clear hS hHe
  intro locs hS
  have hle := CB.le hcCB
  refine lv_aload_n hx hb dX12_wanting_0 rfl (lv_at hl 0 rfl) ?_
  refine lv_aload_n hx hb dX12_wanting_1 rfl (lv_at hl 0 rfl) ?_
  refine va_get (D := (dC, dI)) (ci := 12) (v := .ref (q 22)) (C := RX12) (T := TX12) (N := 85) hx hb hts hiX12 hown hK hP 0 wm0 rfl 33 (by decide) (hts _ (List.mem_cons_of_mem _ (wl_in_3 _ (List.mem_of_getElem? (i := 16) rfl)))) (fun _ h9 => h9) rfl dX12_wanting_2 ?_
  refine lv_aload_n hx hb dX12_wanting_5 rfl (lv_at hl 0 rfl) ?_
  refine va_get (D := (dC, dI)) (ci := 12) (v := .int (iI (A 0 47))) (C := RX12) (T := TX12) (N := 85) hx hb hts hiX12 hown hK hP 0 wm0 rfl 47 (by decide) (hts _ (List.mem_cons_of_mem _ (wl_in_1 _ (List.mem_of_getElem? (i := 12) rfl)))) (fun _ h9 => h9) rfl dX12_wanting_6 ?_
  have r_A_0_47 : (0 : Int) ≤ (A 0 47) ∧ (A 0 47) ≤ 1 := hI 0 47
  refine x_iald hx hb hK hP 22 1 wm22 rfl (by omega) (by decide) dX12_wanting_9 (fun z1 hz1 => ?_)
  have rz1 : (0 : Int) ≤ z1 ∧ z1 ≤ 6 := by rw [hz1]; exact hI 22 _
  have hz1 : z1 = A 22 ((A 0 47)).toNat := hz1
  refine lv_bipush (v := iI 6) hx hb dX12_wanting_10 (by decide +kernel) ?_
  have J20_3 : ∀ (z4 : Int) (H : Heap) (locs : List Loc) (ls : Array Slot), (0 ≤ z4 ∧ z4 ≤ 1) → ((z4 = 0 ∧ ¬ z1 = 6) ∨ (z4 = 1 ∧ z1 = 6)) → (Hd ((z4 = 1 ∧ A 22 (A 0 47).toNat = 6) ∨ (z4 = 0 ∧ ¬ A 22 (A 0 47).toNat = 6))) → va_P (dC, dI) vwCl (WM cI cJ cZ q A) H → va_S AS s.heap H locs → lv_has ls 5 [(0, .ref (q 0))] → W p l e (headSpec ws_mb_X12_wanting ({ frames := 3, cells := 0, slots := 0, locals := 70 } : Room)).room s m [.ref (q 0)].toArray below meth c H locs 0 0 Q (F0 m 20 ls [.int (iI z4), .ref (q 0)]) := by
    intro z4 H locs ls f6 f7 f8 hP hS hl
    have r_A_0_4 : (0 : Int) ≤ (A 0 4) ∧ (A 0 4) ≤ 1600 := hI 0 4
    have r_A_0_5 : (0 : Int) ≤ (A 0 5) ∧ (A 0 5) ≤ 1600 := hI 0 5
    refine x_calli (As := [.int (iI z4)]) (rest := []) ⟨hx, hb, hml, hown, hts⟩ (mb_X12_counts l dC dI cB cI cJ cZ cQ q _ z4 hI f6 hcCB) (cwV 1 hts (goodV (wl_in_2 _ (List.mem_of_getElem? (i := 32) rfl)) (wl_in_2 _ (List.mem_of_getElem? (i := 33) rfl)) (wl_in_2 _ (List.mem_of_getElem? (i := 34) rfl)) (wl_in_0 _ (List.mem_of_getElem? (i := 8) rfl)) (wl_in_2 _ (List.mem_of_getElem? (i := 20) rfl))) rfl rfl rfl (by decide +kernel) ⟨Nat.le_of_ble_eq_true rfl, Nat.le_of_ble_eq_true rfl⟩) hK hDD hA0 hP hS 0 12 wm0 rfl rfl hl.1 (Nat.le_of_ble_eq_true rfl) dX12_wanting_20 (fun z9 A10 H locs hw11 hP hS => ?_)
    obtain ⟨hI, hf12, hw11⟩ := hw11
    obtain ⟨hc13, hw11⟩ := hw11
    have r_A10_0_4 : (0 : Int) ≤ (A10 0 4) ∧ (A10 0 4) ≤ 1600 := hI 0 4
    have r_A10_0_8 : (0 : Int) ≤ (A10 0 8) ∧ (A10 0 8) ≤ 5 := hI 0 8
    have rz9 : 0 ≤ z9 ∧ z9 ≤ 1 := hw11.1
    refine lv_if_ne (tgt := 27) hx hb dX12_wanting_23 (by decide) (fun c14 => ?_) (fun c14 => ?_)
    · have c14 : ¬ z9 = 0 := mt (i_eq0 (rb rz9 (by decide) (by decide))).mpr c14
      refine lv_bipush (v := iI 6) hx hb dX12_wanting_27 (by decide +kernel) ?_
      refine lv_aload_n hx hb dX12_wanting_29 rfl (lv_at hl 0 rfl) ?_
      have e_A10_47 : A10 0 47 = (A 0 47) := (hf12.2 47 rfl)
      refine va_get (D := (dC, dI)) (ci := 12) (v := .int (iI (A10 0 47))) (C := RX12) (T := TX12) (N := 85) hx hb hts hiX12 hown hK hP 0 wm0 rfl 47 (by decide) (hts _ (List.mem_cons_of_mem _ (wl_in_1 _ (List.mem_of_getElem? (i := 12) rfl)))) (fun _ h9 => h9) rfl dX12_wanting_30 ?_
      refine tp_i (y := iI (A 0 47)) (congrArg iI e_A10_47) ?_
      refine x_mulv (v := 6 * (A 0 47)) hx hb dX12_wanting_33 (by omega) ?_
      refine lv_aload_n hx hb dX12_wanting_34 rfl (lv_at hl 0 rfl) ?_
      refine va_get (D := (dC, dI)) (ci := 12) (v := .ref (q 22)) (C := RX12) (T := TX12) (N := 85) hx hb hts hiX12 hown hK hP 0 wm0 rfl 33 (by decide) (hts _ (List.mem_cons_of_mem _ (wl_in_3 _ (List.mem_of_getElem? (i := 16) rfl)))) (fun _ h9 => h9) rfl dX12_wanting_35 ?_
      refine lv_aload_n hx hb dX12_wanting_38 rfl (lv_at hl 0 rfl) ?_
      refine va_get (D := (dC, dI)) (ci := 12) (v := .int (iI (A10 0 47))) (C := RX12) (T := TX12) (N := 85) hx hb hts hiX12 hown hK hP 0 wm0 rfl 47 (by decide) (hts _ (List.mem_cons_of_mem _ (wl_in_1 _ (List.mem_of_getElem? (i := 12) rfl)))) (fun _ h9 => h9) rfl dX12_wanting_39 ?_
      refine tp_i (y := iI (A 0 47)) (congrArg iI e_A10_47) ?_
      have a_A10_22 : A10 22 = A 22 := (hf12.1 22 (by decide) rfl)
      refine x_iald hx hb hK hP 22 1 wm22 rfl (by omega) (by decide) dX12_wanting_42 (fun z15 hz15 => ?_)
      have rz15 : (0 : Int) ≤ z15 ∧ z15 ≤ 6 := by rw [hz15]; exact hI 22 _
      have hz15 : z15 = A 22 ((A 0 47)).toNat := hz15.trans (congrFun a_A10_22 _)
      have ez15 : z15 = z1 := hz15.trans hz1.symm
      refine x_addv (v := 6 * (A 0 47) + z15) hx hb dX12_wanting_43 (by omega) ?_
      refine lv_istore_n (lv' := [(1, .int (iI (6 * (A 0 47) + z15))), (0, .ref (q 0))]) hx hb dX12_wanting_44 rfl hl (by decide) rfl (fun ls hl => ?_)
      refine lv_aload_n hx hb dX12_wanting_45 rfl (lv_at hl 1 rfl) ?_
      refine va_get (D := (dC, dI)) (ci := 12) (v := .int (iI (A10 0 8))) (C := RX12) (T := TX12) (N := 85) hx hb hts hiX12 hown hK hP 0 wm0 rfl 8 (by decide) (hts _ (List.mem_cons_of_mem _ (wl_in_0 _ (List.mem_of_getElem? (i := 16) rfl)))) (fun _ h9 => h9) rfl dX12_wanting_46 ?_
      have J84_17 : ∀ (z26 : Int) (H : Heap) (locs : List Loc) (ls : Array Slot), (-1 ≤ z26 ∧ z26 ≤ 2) → (Hd ((A10 0 8) = 0 → (A10 0 3) = 1 → ownz (A10 0 7) = 0 → z26 = lk (A 17) (3 * A 0 47).toNat (A10 0 7) (A 16 (A 0 47).toNat).toNat)) → va_P (dC, dI) vwCl (WM cI cJ cZ q A10) H → va_S AS s.heap H locs → lv_has ls 5 [(1, .int (iI (6 * (A 0 47) + z15))), (0, .ref (q 0))] → W p l e (headSpec ws_mb_X12_wanting ({ frames := 3, cells := 0, slots := 0, locals := 70 } : Room)).room s m [.ref (q 0)].toArray below meth c H locs 0 0 Q (F0 m 84 ls [.int (iI z26)]) := by
        intro z26 H locs ls f28 f29 hP hS hl
        refine lv_istore_n (lv' := [(2, .int (iI z26)), (1, .int (iI (6 * (A 0 47) + z15))), (0, .ref (q 0))]) hx hb dX12_wanting_84 rfl hl (by decide) rfl (fun ls hl => ?_)
        refine lv_iconst (v := iI 0) hx hb dX12_wanting_85 (by decide +kernel) ?_
        refine lv_istore_n (lv' := [(3, .int (iI 0)), (2, .int (iI z26)), (1, .int (iI (6 * (A 0 47) + z15))), (0, .ref (q 0))]) hx hb dX12_wanting_86 rfl hl (by decide) rfl (fun ls hl => ?_)
        refine lv_bipush (v := iI 6) hx hb dX12_wanting_87 (by decide +kernel) ?_
        refine lv_aload_n hx hb dX12_wanting_89 rfl (lv_at hl 3 rfl) ?_
        refine va_get (D := (dC, dI)) (ci := 12) (v := .int (iI (A10 0 47))) (C := RX12) (T := TX12) (N := 85) hx hb hts hiX12 hown hK hP 0 wm0 rfl 47 (by decide) (hts _ (List.mem_cons_of_mem _ (wl_in_1 _ (List.mem_of_getElem? (i := 12) rfl)))) (fun _ h9 => h9) rfl dX12_wanting_90 ?_
        refine tp_i (y := iI (A 0 47)) (congrArg iI e_A10_47) ?_
        refine x_mulv (v := 6 * (A 0 47)) hx hb dX12_wanting_93 (by omega) ?_
        refine lv_istore (lv' := [(4, .int (iI (6 * (A 0 47)))), (3, .int (iI 0)), (2, .int (iI z26)), (1, .int (iI (6 * (A 0 47) + z15))), (0, .ref (q 0))]) hx hb dX12_wanting_94 hl (by decide) rfl (fun ls hl => ?_)
        have L96_33 : ∀ (n35 : Nat) (z30 z31 : Int) (H : Heap) (locs : List Loc) (ls : Array Slot), (6 * (A 0 47) ≤ z30) → (0 ≤ z30 ∧ z30 ≤ 12) → (0 ≤ z31 ∧ z31 ≤ 6) → (z30 ≤ (6 * (A 0 47) + z15)) → (6 * (A 0 47) ≤ z30) → (z31 ≤ z30 - 6 * (A 0 47)) → (Hd (z31 = ct (A 23) (6 * (A 0 47)).toNat z26 (z30 - 6 * (A 0 47)).toNat)) → ((6 * (A 0 47) + z15 - z30 + 1).toNat = n35) → va_P (dC, dI) vwCl (WM cI cJ cZ q A10) H → va_S AS s.heap H locs → lv_has ls 5 [(4, .int (iI z30)), (3, .int (iI z31)), (2, .int (iI z26)), (1, .int (iI (6 * (A 0 47) + z15))), (0, .ref (q 0))] → W p l e (headSpec ws_mb_X12_wanting ({ frames := 3, cells := 0, slots := 0, locals := 70 } : Room)).room s m [.ref (q 0)].toArray below meth c H locs 0 0 Q (F0 m 96 ls []) := by
          intro n35
          induction n35 using Nat.strongRecOn with
          | ind n35 ih34 =>
            intro z30 z31 H locs ls f36 f37 f38 f39 f40 f41 f42 hn35 hP hS hl
            refine lv_iload hx hb dX12_wanting_96 (lv_at hl 0 rfl) ?_
            refine lv_iload_n hx hb dX12_wanting_98 rfl (lv_at hl 3 rfl) ?_
            refine lv_icmp_ge (tgt := 127) hx hb dX12_wanting_99 (by decide) (fun c43 => ?_) (fun c43 => ?_)
            · have c43 : 6 * (A 0 47) + z15 ≤ z30 := (i_le (by omega) (rb f37 (by decide) (by decide))).mp c43
              have hd44 := f42.out
              rw [show z30 - 6 * (A 0 47) = z15 by omega] at hd44
              replace hd44 := Hd.mk hd44
              refine lv_iload_n hx hb dX12_wanting_127 rfl (lv_at hl 2 rfl) ?_
              refine lv_iconst (v := iI (-1)) hx hb dX12_wanting_128 (by decide +kernel) ?_
              have J146_46 : ∀ (A52 : St) (H : Heap) (locs : List Loc) (ls : Array Slot), (Hd ((A52 0 8) = 0 → (A10 0 8 = 0 ∧ (z26 = -1 ∨ ¬ z31 = 2)))) → IM A52 → fr [] [8, 9] A10 A52 → va_P (dC, dI) vwCl (WM cI cJ cZ q A52) H → va_S AS s.heap H locs → lv_has ls 5 [(4, .int (iI z30)), (3, .int (iI z31)), (2, .int (iI z26)), (1, .int (iI (6 * (A 0 47) + z15))), (0, .ref (q 0))] → W p l e (headSpec ws_mb_X12_wanting ({ frames := 3, cells := 0, slots := 0, locals := 70 } : Room)).room s m [.ref (q 0)].toArray below meth c H locs 0 0 Q (F0 m 146 ls []) := by
                intro A52 H locs ls f53 hI hj51 hP hS hl
                refine lv_aload_n hx hb dX12_wanting_146 rfl (lv_at hl 4 rfl) ?_
                refine va_get (D := (dC, dI)) (ci := 12) (v := .ref (q 23)) (C := RX12) (T := TX12) (N := 85) hx hb hts hiX12 hown hK hP 0 wm0 rfl 34 (by decide) (hts _ (List.mem_cons_of_mem _ (wl_in_3 _ (List.mem_of_getElem? (i := 17) rfl)))) (fun _ h9 => h9) rfl dX12_wanting_147 ?_
                refine lv_iload_n hx hb dX12_wanting_150 rfl (lv_at hl 3 rfl) ?_
                refine lv_aload_n hx hb dX12_wanting_151 rfl (lv_at hl 4 rfl) ?_
                refine lv_iconst (v := iI 3) hx hb dX12_wanting_152 (by decide +kernel) ?_
                have e_A52_3 : A52 0 3 = (A10 0 3) := (hj51.2 3 rfl)
                have r_A10_0_3 : (0 : Int) ≤ (A10 0 3) ∧ (A10 0 3) ≤ 3 := by rw [← e_A52_3]; exact hI 0 3
                have e_A52_4 : A52 0 4 = (A10 0 4) := (hj51.2 4 rfl)
                have e_A52_7 : A52 0 7 = (A10 0 7) := (hj51.2 7 rfl)
                have r_A10_0_7 : (-9223372036854775808 : Int) ≤ (A10 0 7) ∧ (A10 0 7) ≤ 9223372036854775807 := by rw [← e_A52_7]; exact hI 0 7
                have r_A52_0_8 : (0 : Int) ≤ (A52 0 8) ∧ (A52 0 8) ≤ 5 := hI 0 8
                have e_A52_47 : A52 0 47 = (A 0 47) := (hj51.2 47 rfl).trans e_A10_47
                refine x_calli (As := [.int (iI 3)]) (rest := [.int (iI (6 * (A 0 47) + z15)), .ref (q 23)]) ⟨hx, hb, hml, hown, hts⟩ (mb_X12_asked_3 l dC dI cB cI cJ cZ cQ q _ 3 hI ⟨by decide, by decide⟩ (CB.fr hc13 hj51 rfl rfl)) (cwV 1 hts (goodV (wl_in_2 _ (List.mem_of_getElem? (i := 47) rfl)) (wl_in_2 _ (List.mem_of_getElem? (i := 48) rfl)) (wl_in_2 _ (List.mem_of_getElem? (i := 49) rfl)) (wl_in_0 _ (List.mem_of_getElem? (i := 8) rfl)) (wl_in_2 _ (List.mem_of_getElem? (i := 29) rfl))) rfl rfl rfl (by decide +kernel) ⟨Nat.le_of_ble_eq_true rfl, Nat.le_of_ble_eq_true rfl⟩) hK hDD hA0 hP hS 0 12 wm0 rfl rfl hl.1 (Nat.le_of_ble_eq_true rfl) dX12_wanting_153 (fun z54 A55 H locs hw56 hP hS => ?_)
                obtain ⟨hI, hf57, hw56⟩ := hw56
                obtain ⟨hc58, hw56⟩ := hw56
                have r_A55_0_4 : (0 : Int) ≤ (A55 0 4) ∧ (A55 0 4) ≤ 1600 := hI 0 4
                have r_A55_0_8 : (0 : Int) ≤ (A55 0 8) ∧ (A55 0 8) ≤ 5 := hI 0 8
                refine x_iast hx hb hK hP hDD hS 23 1 wm23 rfl (by omega) (by decide) dX12_wanting_156 ws23 (fun H locs hP hS => ?_)
                have hI := hI.st (j := 23) (i := (6 * (A 0 47) + z15).toNat) (v := z54) (show (0 : Int) ≤ z54 ∧ z54 ≤ 2 from (by omega))
                have a_A52_22 : A52 22 = A 22 := (hj51.1 22 (by decide) rfl).trans a_A10_22
                have a_A55_22 : A55 22 = A 22 := (hf57.1 22 (by decide) rfl).trans a_A52_22
                obtain ⟨A59, hA59⟩ : ∃ A59 : St, A59 = (stA A55 23 (6 * (A 0 47) + z15).toNat z54) := ⟨_, rfl⟩
                rw [← hA59] at hP hI
                have hc60 : WI A59 := WI.skip (b := A 0 47) (k := 6 * (A 0 47) + z15) (z := z54) (WI.fr (WI.fr (WI.fr hcWI hf12 rfl rfl) hj51 rfl rfl) hf57 rfl rfl) hA59 (by omega) (by rw [a_A55_22]; omega) (by rw [← rd22 hA59]; exact hI 22 0) (by rw [← rd22 hA59]; exact hI 22 1) (by rw [a_A55_22]; have g := f8.out; omega)
                refine lv_bipush (v := iI 6) hx hb dX12_wanting_157 (by decide +kernel) ?_
                refine lv_aload_n hx hb dX12_wanting_159 rfl (lv_at hl 4 rfl) ?_
                have e_A55_47 : A55 0 47 = (A 0 47) := (hf57.2 47 rfl).trans e_A52_47
                have e_A59_47 : A59 0 47 = (A 0 47) := by rw [hA59]; exact e_A55_47
                refine va_get (D := (dC, dI)) (ci := 12) (v := .int (iI (A59 0 47))) (C := RX12) (T := TX12) (N := 85) hx hb hts hiX12 hown hK hP 0 wm0 rfl 47 (by decide) (hts _ (List.mem_cons_of_mem _ (wl_in_1 _ (List.mem_of_getElem? (i := 12) rfl)))) (fun _ h9 => h9) rfl dX12_wanting_160 ?_
                refine tp_i (y := iI (A 0 47)) (congrArg iI e_A59_47) ?_
                refine x_mulv (v := 6 * (A 0 47)) hx hb dX12_wanting_163 (by omega) ?_
                refine lv_istore (lv' := [(4, .int (iI (6 * (A 0 47)))), (3, .int (iI z31)), (2, .int (iI z26)), (1, .int (iI (6 * (A 0 47) + z15))), (0, .ref (q 0))]) hx hb dX12_wanting_164 hl (by decide) rfl (fun ls hl => ?_)
                have e_A59_8 : A59 0 8 = (A55 0 8) := by rw [hA59]; exact rfl
                have L166_64 : ∀ (n66 : Nat) (z61 : Int) (A63 : St) (H : Heap) (locs : List Loc) (ls : Array Slot), (6 * (A 0 47) ≤ z61) → (0 ≤ z61 ∧ z61 ≤ 12) → (z61 ≤ (6 * (A 0 47) + z15)) → (6 * (A 0 47) ≤ z61) → (Hd ((A63 0 8) = 0 → A59 0 8 = 0)) → ((6 * (A 0 47) + z15 - z61 + 1).toNat = n66) → IM A63 → fr [] [8, 9] A59 A63 → va_P (dC, dI) vwCl (WM cI cJ cZ q A63) H → va_S AS s.heap H locs → lv_has ls 5 [(4, .int (iI z61)), (3, .int (iI z31)), (2, .int (iI z26)), (1, .int (iI (6 * (A 0 47) + z15))), (0, .ref (q 0))] → W p l e (headSpec ws_mb_X12_wanting ({ frames := 3, cells := 0, slots := 0, locals := 70 } : Room)).room s m [.ref (q 0)].toArray below meth c H locs 0 0 Q (F0 m 166 ls []) := by
                  intro n66
                  induction n66 using Nat.strongRecOn with
                  | ind n66 ih65 =>
                    intro z61 A63 H locs ls f67 f68 f69 f70 f71 hn66 hI hj62 hP hS hl
                    have r_A63_0_8 : (0 : Int) ≤ (A63 0 8) ∧ (A63 0 8) ≤ 5 := hI 0 8
                    refine lv_iload hx hb dX12_wanting_166 (lv_at hl 0 rfl) ?_
                    refine lv_iload_n hx hb dX12_wanting_168 rfl (lv_at hl 3 rfl) ?_
                    have J213_73 : ∀ (H : Heap) (locs : List Loc) (ls : Array Slot), (z61 ≤ (6 * (A 0 47) + z15)) → va_P (dC, dI) vwCl (WM cI cJ cZ q A63) H → va_S AS s.heap H locs → lv_has ls 5 [(4, .int (iI z61)), (3, .int (iI z31)), (2, .int (iI z26)), (1, .int (iI (6 * (A 0 47) + z15))), (0, .ref (q 0))] → W p l e (headSpec ws_mb_X12_wanting ({ frames := 3, cells := 0, slots := 0, locals := 70 } : Room)).room s m [.ref (q 0)].toArray below meth c H locs 0 0 Q (F0 m 213 ls []) := by
                      intro H locs ls f86 hP hS hl
                      refine lv_aload_n hx hb dX12_wanting_213 rfl (lv_at hl 4 rfl) ?_
                      refine va_get (D := (dC, dI)) (ci := 12) (v := .ref (q 24)) (C := RX12) (T := TX12) (N := 85) hx hb hts hiX12 hown hK hP 0 wm0 rfl 35 (by decide) (hts _ (List.mem_cons_of_mem _ (wl_in_3 _ (List.mem_of_getElem? (i := 18) rfl)))) (fun _ h9 => h9) rfl dX12_wanting_214 ?_
                      refine lv_iload_n hx hb dX12_wanting_217 rfl (lv_at hl 3 rfl) ?_
                      refine lv_aload_n hx hb dX12_wanting_218 rfl (lv_at hl 4 rfl) ?_
                      refine lv_iconst (v := iI 4) hx hb dX12_wanting_219 (by decide +kernel) ?_
                      have e_A59_3 : A59 0 3 = (A55 0 3) := by rw [hA59]; exact rfl
                      have e_A63_3 : A63 0 3 = (A55 0 3) := (hj62.2 3 rfl).trans e_A59_3
                      have r_A55_0_3 : (0 : Int) ≤ (A55 0 3) ∧ (A55 0 3) ≤ 3 := by rw [← e_A63_3]; exact hI 0 3
                      have e_A59_4 : A59 0 4 = (A55 0 4) := by rw [hA59]; exact rfl
                      have e_A63_4 : A63 0 4 = (A55 0 4) := (hj62.2 4 rfl).trans e_A59_4
                      have e_A59_7 : A59 0 7 = (A55 0 7) := by rw [hA59]; exact rfl
                      have e_A63_7 : A63 0 7 = (A55 0 7) := (hj62.2 7 rfl).trans e_A59_7
                      have r_A55_0_7 : (-9223372036854775808 : Int) ≤ (A55 0 7) ∧ (A55 0 7) ≤ 9223372036854775807 := by rw [← e_A63_7]; exact hI 0 7
                      have e_A63_47 : A63 0 47 = (A 0 47) := (hj62.2 47 rfl).trans e_A59_47
                      refine x_calli (As := [.int (iI 4)]) (rest := [.int (iI (6 * (A 0 47) + z15)), .ref (q 24)]) ⟨hx, hb, hml, hown, hts⟩ (mb_X12_asked_4 l dC dI cB cI cJ cZ cQ q _ 4 hI ⟨by decide, by decide⟩ (CB.fr (CB.fr hc58 (fr_def hA59 (fr.st (fr.rf (M := [23]) (N := [])) (by decide) rfl)) rfl rfl) hj62 rfl rfl)) (cwV 1 hts (goodV (wl_in_2 _ (List.mem_of_getElem? (i := 47) rfl)) (wl_in_2 _ (List.mem_of_getElem? (i := 48) rfl)) (wl_in_2 _ (List.mem_of_getElem? (i := 49) rfl)) (wl_in_0 _ (List.mem_of_getElem? (i := 8) rfl)) (wl_in_2 _ (List.mem_of_getElem? (i := 29) rfl))) rfl rfl rfl (by decide +kernel) ⟨Nat.le_of_ble_eq_true rfl, Nat.le_of_ble_eq_true rfl⟩) hK hDD hA0 hP hS 0 12 wm0 rfl rfl hl.1 (Nat.le_of_ble_eq_true rfl) dX12_wanting_220 (fun z87 A88 H locs hw89 hP hS => ?_)
                      obtain ⟨hI, hf90, hw89⟩ := hw89
                      obtain ⟨hc91, hw89⟩ := hw89
                      have r_A88_0_4 : (0 : Int) ≤ (A88 0 4) ∧ (A88 0 4) ≤ 1600 := hI 0 4
                      have r_A88_0_8 : (0 : Int) ≤ (A88 0 8) ∧ (A88 0 8) ≤ 5 := hI 0 8
                      refine x_iast hx hb hK hP hDD hS 24 1 wm24 rfl (by omega) (by decide) dX12_wanting_223 ws24 (fun H locs hP hS => ?_)
                      have hI := hI.st (j := 24) (i := (6 * (A 0 47) + z15).toNat) (v := z87) (show (0 : Int) ≤ z87 ∧ z87 ≤ 3 from (by omega))
                      obtain ⟨A92, hA92⟩ : ∃ A92 : St, A92 = (stA A88 24 (6 * (A 0 47) + z15).toNat z87) := ⟨_, rfl⟩
                      rw [← hA92] at hP hI
                      refine lv_aload_n hx hb dX12_wanting_224 rfl (lv_at hl 4 rfl) ?_
                      have e_A92_8 : A92 0 8 = (A88 0 8) := by rw [hA92]; exact rfl
                      refine va_get (D := (dC, dI)) (ci := 12) (v := .int (iI (A92 0 8))) (C := RX12) (T := TX12) (N := 85) hx hb hts hiX12 hown hK hP 0 wm0 rfl 8 (by decide) (hts _ (List.mem_cons_of_mem _ (wl_in_0 _ (List.mem_of_getElem? (i := 16) rfl)))) (fun _ h9 => h9) rfl dX12_wanting_225 ?_
                      refine tp_i (y := iI (A88 0 8)) (congrArg iI e_A92_8) ?_
                      refine lv_if_ne (tgt := 244) hx hb dX12_wanting_228 (by decide) (fun c93 => ?_) (fun c93 => ?_)
                      · have c93 : ¬ (A88 0 8) = 0 := mt (i_eq0 (rb r_A88_0_8 (by decide) (by decide))).mpr c93
                        have e_A92_4 : A92 0 4 = (A88 0 4) := by rw [hA92]; exact rfl
                        exact RET _ _ _ _ _ ⟨hI, fr_def hA92 (fr.st (fr.trans (fr.trans (fr_def hA59 (fr.st (fr.trans (fr.trans (fr.trans (fr.rf) hf12 rfl rfl) hj51 rfl rfl) hf57 rfl rfl) (by decide) rfl)) hj62 rfl rfl) hf90 rfl rfl) (by decide) rfl), (CB.fr hc91 (fr_def hA92 (fr.st (fr.rf (M := [24]) (N := [])) (by decide) rfl)) rfl rfl), (WI.fr (WI.fr (WI.fr hc60 hj62 rfl rfl) hf90 rfl rfl) (fr_def hA92 (fr.st (fr.rf (M := [24]) (N := [])) (by decide) rfl)) rfl rfl), by omega⟩ hP hS dX12_wanting_244
                      · have c93 : (A88 0 8) = 0 := (i_eq0 (rb r_A88_0_8 (by decide) (by decide))).mp c93
                        refine lv_aload_n hx hb dX12_wanting_231 rfl (lv_at hl 4 rfl) ?_
                        refine va_get (D := (dC, dI)) (ci := 12) (v := .ref (q 22)) (C := RX12) (T := TX12) (N := 85) hx hb hts hiX12 hown hK hP 0 wm0 rfl 33 (by decide) (hts _ (List.mem_cons_of_mem _ (wl_in_3 _ (List.mem_of_getElem? (i := 16) rfl)))) (fun _ h9 => h9) rfl dX12_wanting_232 ?_
                        refine lv_aload_n hx hb dX12_wanting_235 rfl (lv_at hl 4 rfl) ?_
                        have e_A88_47 : A88 0 47 = (A 0 47) := (hf90.2 47 rfl).trans e_A63_47
                        have e_A92_47 : A92 0 47 = (A 0 47) := by rw [hA92]; exact e_A88_47
                        refine va_get (D := (dC, dI)) (ci := 12) (v := .int (iI (A92 0 47))) (C := RX12) (T := TX12) (N := 85) hx hb hts hiX12 hown hK hP 0 wm0 rfl 47 (by decide) (hts _ (List.mem_cons_of_mem _ (wl_in_1 _ (List.mem_of_getElem? (i := 12) rfl)))) (fun _ h9 => h9) rfl dX12_wanting_236 ?_
                        refine tp_i (y := iI (A 0 47)) (congrArg iI e_A92_47) ?_
                        refine lv_dup2_11 hx hb dX12_wanting_239 rfl rfl ?_
                        have a_A59_22 : A59 22 = A 22 := by rw [hA59]; exact a_A55_22
                        have a_A63_22 : A63 22 = A 22 := (hj62.1 22 (by decide) rfl).trans a_A59_22
                        have a_A88_22 : A88 22 = A 22 := (hf90.1 22 (by decide) rfl).trans a_A63_22
                        have a_A92_22 : A92 22 = A 22 := by rw [hA92]; exact a_A88_22
                        refine x_iald hx hb hK hP 22 1 wm22 rfl (by omega) (by decide) dX12_wanting_240 (fun z94 hz94 => ?_)
                        have rz94 : (0 : Int) ≤ z94 ∧ z94 ≤ 6 := by rw [hz94]; exact hI 22 _
                        have hz94 : z94 = A 22 ((A 0 47)).toNat := hz94.trans (congrFun a_A92_22 _)
                        have ez94 : z94 = z1 := hz94.trans hz1.symm
                        refine lv_iconst (v := iI 1) hx hb dX12_wanting_241 (by decide +kernel) ?_
                        refine x_addv (v := z94 + 1) hx hb dX12_wanting_242 (by omega) ?_
                        refine x_iast hx hb hK hP hDD hS 22 1 wm22 rfl (by omega) (by decide) dX12_wanting_243 ws22 (fun H locs hP hS => ?_)
                        have hI := hI.st (j := 22) (i := ((A 0 47)).toNat) (v := z94 + 1) (show (0 : Int) ≤ z94 + 1 ∧ z94 + 1 ≤ 6 from (by omega))
                        have ca95 : A63 23 = A59 23 := (hj62.1 23 (by decide) rfl)
                        have ca96 : A88 23 = A59 23 := (hf90.1 23 (by decide) rfl).trans ca95
                        have ca97 : A92 23 = A59 23 := by rw [hA92]; exact ca96
                        have a_A10_23 : A10 23 = A 23 := (hf12.1 23 (by decide) rfl)
                        have a_A52_23 : A52 23 = A 23 := (hj51.1 23 (by decide) rfl).trans a_A10_23
                        have a_A55_23 : A55 23 = A 23 := (hf57.1 23 (by decide) rfl).trans a_A52_23
                        have gb := hw89.2.2.2.out (by omega)
                        have gl := f71.out (by omega)
                        have ga := hw56.2.2.2.out (by omega)
                        have a_A10_17 : A10 17 = A 17 := (hf12.1 17 (by decide) rfl)
                        have a_A52_17 : A52 17 = A 17 := (hj51.1 17 (by decide) rfl).trans a_A10_17
                        have a_A10_16 : A10 16 = A 16 := (hf12.1 16 (by decide) rfl)
                        have a_A52_16 : A52 16 = A 16 := (hj51.1 16 (by decide) rfl).trans a_A10_16
                        rw [a_A52_17, a_A52_16, e_A52_47, e_A52_7] at ga
                        have gn := f53.out (by omega)
                        have gp := f29.out (by omega) (by omega) (by omega)
                        have g6 := f8.out
                        have gc := hd44.out
                        have gw := WI.le hcWI (b := A 0 47) (by omega) z26
                        have ezw : z15 = A 22 (A 0 47).toNat := by omega
                        rw [← ezw, ← gc] at gw
                        obtain ⟨A98, hA98⟩ : ∃ A98 : St, A98 = (stA A92 22 ((A 0 47)).toNat (z94 + 1)) := ⟨_, rfl⟩
                        rw [← hA98] at hP hI
                        have hc99 : WI A98 := WI.inc (A := A) (b := A 0 47) (n := z15) (z := z54) (p := z26) (m := z31) (k := 6 * (A 0 47) + z15) (WI.fr (WI.fr (WI.fr hc60 hj62 rfl rfl) hf90 rfl rfl) (fr_def hA92 (fr.st (fr.rf (M := [24]) (N := [])) (by decide) rfl)) rfl rfl) (ca97.trans (by rw [hA59, stA_same, a_A55_23])) (by omega) (by omega) (by rw [a_A92_22]; omega) (by omega) (hA98.trans (by rw [show z94 = z15 by omega])) gc (by omega) (by omega)
                        have e_A92_4 : A92 0 4 = (A88 0 4) := by rw [hA92]; exact rfl
                        have e_A98_4 : A98 0 4 = (A88 0 4) := by rw [hA98]; exact e_A92_4
                        have e_A98_8 : A98 0 8 = (A88 0 8) := by rw [hA98]; exact e_A92_8
                        exact RET _ _ _ _ _ ⟨hI, fr_def hA98 (fr.st (fr_def hA92 (fr.st (fr.trans (fr.trans (fr_def hA59 (fr.st (fr.trans (fr.trans (fr.trans (fr.rf) hf12 rfl rfl) hj51 rfl rfl) hf57 rfl rfl) (by decide) rfl)) hj62 rfl rfl) hf90 rfl rfl) (by decide) rfl)) (by decide) rfl), (CB.fr (CB.fr hc91 (fr_def hA92 (fr.st (fr.rf (M := [24]) (N := [])) (by decide) rfl)) rfl rfl) (fr_def hA98 (fr.st (fr.rf (M := [22]) (N := [])) (by decide) rfl)) rfl rfl), hc99, by omega⟩ hP hS dX12_wanting_244
                    refine lv_icmp_ge (tgt := 213) hx hb dX12_wanting_169 (by decide) (fun c72 => ?_) (fun c72 => ?_)
                    · have c72 : 6 * (A 0 47) + z15 ≤ z61 := (i_le (by omega) (rb f68 (by decide) (by decide))).mp c72
                      exact J213_73 _ _ _ (by omega) hP hS (lv_sub hl [0, 1, 2, 3, 4] rfl)
                    · have c72 : ¬ 6 * (A 0 47) + z15 ≤ z61 := mt (i_le (by omega) (rb f68 (by decide) (by decide))).mpr c72
                      refine lv_aload_n hx hb dX12_wanting_172 rfl (lv_at hl 4 rfl) ?_
                      refine va_get (D := (dC, dI)) (ci := 12) (v := .int (iI (A63 0 8))) (C := RX12) (T := TX12) (N := 85) hx hb hts hiX12 hown hK hP 0 wm0 rfl 8 (by decide) (hts _ (List.mem_cons_of_mem _ (wl_in_0 _ (List.mem_of_getElem? (i := 16) rfl)))) (fun _ h9 => h9) rfl dX12_wanting_173 ?_
                      refine lv_if_ne (tgt := 213) hx hb dX12_wanting_176 (by decide) (fun c74 => ?_) (fun c74 => ?_)
                      · have c74 : ¬ (A63 0 8) = 0 := mt (i_eq0 (rb r_A63_0_8 (by decide) (by decide))).mpr c74
                        exact J213_73 _ _ _ (by omega) hP hS (lv_sub hl [0, 1, 2, 3, 4] rfl)
                      · have c74 : (A63 0 8) = 0 := (i_eq0 (rb r_A63_0_8 (by decide) (by decide))).mp c74
                        refine lv_aload_n hx hb dX12_wanting_179 rfl (lv_at hl 4 rfl) ?_
                        refine va_get (D := (dC, dI)) (ci := 12) (v := .ref (q 23)) (C := RX12) (T := TX12) (N := 85) hx hb hts hiX12 hown hK hP 0 wm0 rfl 34 (by decide) (hts _ (List.mem_cons_of_mem _ (wl_in_3 _ (List.mem_of_getElem? (i := 17) rfl)))) (fun _ h9 => h9) rfl dX12_wanting_180 ?_
                        refine lv_iload hx hb dX12_wanting_183 (lv_at hl 0 rfl) ?_
                        refine x_iald hx hb hK hP 23 1 wm23 rfl (by omega) (by decide) dX12_wanting_185 (fun z75 hz75 => ?_)
                        have rz75 : (0 : Int) ≤ z75 ∧ z75 ≤ 2 := by rw [hz75]; exact hI 23 _
                        clear hz75
                        refine lv_aload_n hx hb dX12_wanting_186 rfl (lv_at hl 4 rfl) ?_
                        refine va_get (D := (dC, dI)) (ci := 12) (v := .ref (q 23)) (C := RX12) (T := TX12) (N := 85) hx hb hts hiX12 hown hK hP 0 wm0 rfl 34 (by decide) (hts _ (List.mem_cons_of_mem _ (wl_in_3 _ (List.mem_of_getElem? (i := 17) rfl)))) (fun _ h9 => h9) rfl dX12_wanting_187 ?_
                        refine lv_iload_n hx hb dX12_wanting_190 rfl (lv_at hl 3 rfl) ?_
                        refine x_iald hx hb hK hP 23 1 wm23 rfl (by omega) (by decide) dX12_wanting_191 (fun z76 hz76 => ?_)
                        have rz76 : (0 : Int) ≤ z76 ∧ z76 ≤ 2 := by rw [hz76]; exact hI 23 _
                        clear hz76
                        have J207_78 : ∀ (A84 : St) (H : Heap) (locs : List Loc) (ls : Array Slot), IM A84 → fr [] [8, 9] A63 A84 → va_P (dC, dI) vwCl (WM cI cJ cZ q A84) H → va_S AS s.heap H locs → lv_has ls 5 [(4, .int (iI z61)), (3, .int (iI z31)), (2, .int (iI z26)), (1, .int (iI (6 * (A 0 47) + z15))), (0, .ref (q 0))] → W p l e (headSpec ws_mb_X12_wanting ({ frames := 3, cells := 0, slots := 0, locals := 70 } : Room)).room s m [.ref (q 0)].toArray below meth c H locs 0 0 Q (F0 m 207 ls []) := by
                          intro A84 H locs ls hI hj83 hP hS hl
                          refine lv_iinc (v := iI (z61 + 1)) (lv' := [(4, .int (iI (z61 + 1))), (3, .int (iI z31)), (2, .int (iI z26)), (1, .int (iI (6 * (A 0 47) + z15))), (0, .ref (q 0))]) hx hb dX12_wanting_207 hl (k := 0) rfl (i_inc (by omega)) (by decide) rfl (fun ls hl => ?_)
                          refine lv_goto (tgt := 166) hx hb dX12_wanting_210 (by decide) ?_
                          have r_A84_0_8 : (0 : Int) ≤ (A84 0 8) ∧ (A84 0 8) ≤ 5 := hI 0 8
                          exact ih65 _ (by omega) (z61 + 1) _ _ _ _ (by omega) (by omega) (by omega) (by omega) (by exact Hd.mk (by have g0 := f71.out;  omega)) rfl hI (fr.trans (fr.trans (fr.rf) hj62 rfl rfl) hj83 rfl rfl) hP hS (lv_sub hl [0, 1, 2, 3, 4] rfl)
                        refine lv_icmp_ne (tgt := 207) hx hb dX12_wanting_192 (by decide) (fun c77 => ?_) (fun c77 => ?_)
                        · have c77 : ¬ z75 = z76 := mt (i_eq (rb rz75 (by decide) (by decide)) (rb rz76 (by decide) (by decide))).mpr c77
                          exact J207_78 _ _ _ _ hI (fr.rf) hP hS (lv_sub hl [0, 1, 2, 3, 4] rfl)
                        · have c77 : z75 = z76 := (i_eq (rb rz75 (by decide) (by decide)) (rb rz76 (by decide) (by decide))).mp c77
                          refine lv_aload_n hx hb dX12_wanting_195 rfl (lv_at hl 4 rfl) ?_
                          refine lv_iconst (v := iI 4) hx hb dX12_wanting_196 (by decide +kernel) ?_
                          refine lv_aload_n hx hb dX12_wanting_197 rfl (lv_at hl 4 rfl) ?_
                          refine va_get (D := (dC, dI)) (ci := 12) (v := .ref (q 24)) (C := RX12) (T := TX12) (N := 85) hx hb hts hiX12 hown hK hP 0 wm0 rfl 35 (by decide) (hts _ (List.mem_cons_of_mem _ (wl_in_3 _ (List.mem_of_getElem? (i := 18) rfl)))) (fun _ h9 => h9) rfl dX12_wanting_198 ?_
                          refine lv_iload hx hb dX12_wanting_201 (lv_at hl 0 rfl) ?_
                          have a_A10_24 : A10 24 = A 24 := (hf12.1 24 (by decide) rfl)
                          have a_A52_24 : A52 24 = A 24 := (hj51.1 24 (by decide) rfl).trans a_A10_24
                          have a_A55_24 : A55 24 = A 24 := (hf57.1 24 (by decide) rfl).trans a_A52_24
                          have a_A59_24 : A59 24 = A 24 := by rw [hA59]; exact a_A55_24
                          have a_A63_24 : A63 24 = A 24 := (hj62.1 24 (by decide) rfl).trans a_A59_24
                          refine x_iald hx hb hK hP 24 1 wm24 rfl (by omega) (by decide) dX12_wanting_203 (fun z79 hz79 => ?_)
                          have rz79 : (0 : Int) ≤ z79 ∧ z79 ≤ 3 := by rw [hz79]; exact hI 24 _
                          have hz79 : z79 = A 24 (z61).toNat := hz79.trans (congrFun a_A63_24 _)
                          refine x_callv (As := [.int (iI 4), .int (iI z79)]) (rest := []) ⟨hx, hb, hml, hown, hts⟩ (mc_X12_bars l dC dI cB cI cJ cZ cQ q _ 4 z79 hI ⟨by decide, by decide⟩ (rb rz79 (by decide) (by decide))) (cwV 2 hts (goodV (wl_in_2 _ (List.mem_of_getElem? (i := 50) rfl)) (wl_in_2 _ (List.mem_of_getElem? (i := 51) rfl)) (wl_in_2 _ (List.mem_of_getElem? (i := 52) rfl)) (wl_in_0 _ (List.mem_of_getElem? (i := 8) rfl)) (wl_in_2 _ (List.mem_of_getElem? (i := 30) rfl))) rfl rfl rfl (by decide +kernel) ⟨Nat.le_of_ble_eq_true rfl, Nat.le_of_ble_eq_true rfl⟩) hK hDD hA0 hP hS 0 12 wm0 rfl rfl hl.1 (Nat.le_of_ble_eq_true rfl) dX12_wanting_204 (fun A80 H locs hw81 hP hS => ?_)
                          obtain ⟨hI, hf82, hw81⟩ := hw81
                          clear hw81
                          exact J207_78 _ _ _ _ hI (fr.trans (fr.rf) hf82 rfl rfl) hP hS (lv_sub hl [0, 1, 2, 3, 4] rfl)
                exact L166_64 _ (6 * (A 0 47)) _ _ _ _ (by omega) (by omega) (by omega) (by omega) (by exact Hd.mk (by  omega)) rfl hI (fr.rf) hP hS (lv_sub hl [0, 1, 2, 3, 4] rfl)
              refine lv_icmp_eq (tgt := 146) hx hb dX12_wanting_129 (by decide) (fun c45 => ?_) (fun c45 => ?_)
              · have c45 : z26 = (-1) := (i_eq (rb f28 (by decide) (by decide)) ⟨by decide, by decide⟩).mp c45
                exact J146_46 _ _ _ _ (by exact Hd.mk (by  omega)) hI (fr.rf) hP hS (lv_sub hl [0, 1, 2, 3, 4] rfl)
              · have c45 : ¬ z26 = (-1) := mt (i_eq (rb f28 (by decide) (by decide)) ⟨by decide, by decide⟩).mpr c45
                refine lv_iload_n hx hb dX12_wanting_132 rfl (lv_at hl 1 rfl) ?_
                refine lv_iconst (v := iI 2) hx hb dX12_wanting_133 (by decide +kernel) ?_
                refine lv_icmp_ne (tgt := 146) hx hb dX12_wanting_134 (by decide) (fun c47 => ?_) (fun c47 => ?_)
                · have c47 : ¬ z31 = 2 := mt (i_eq (rb f38 (by decide) (by decide)) ⟨by decide, by decide⟩).mpr c47
                  exact J146_46 _ _ _ _ (by exact Hd.mk (by  omega)) hI (fr.rf) hP hS (lv_sub hl [0, 1, 2, 3, 4] rfl)
                · have c47 : z31 = 2 := (i_eq (rb f38 (by decide) (by decide)) ⟨by decide, by decide⟩).mp c47
                  refine lv_aload_n hx hb dX12_wanting_137 rfl (lv_at hl 4 rfl) ?_
                  refine lv_iconst (v := iI 3) hx hb dX12_wanting_138 (by decide +kernel) ?_
                  refine lv_aload_n hx hb dX12_wanting_139 rfl (lv_at hl 4 rfl) ?_
                  refine va_get (D := (dC, dI)) (ci := 12) (v := .int (iI (A10 0 4))) (C := RX12) (T := TX12) (N := 85) hx hb hts hiX12 hown hK hP 0 wm0 rfl 4 (by decide) (hts _ (List.mem_cons_of_mem _ (wl_in_0 _ (List.mem_of_getElem? (i := 23) rfl)))) (fun _ h9 => h9) rfl dX12_wanting_140 ?_
                  refine x_callv (As := [.int (iI 3), .int (iI (A10 0 4))]) (rest := []) ⟨hx, hb, hml, hown, hts⟩ (mc_X12_blame l dC dI cB cI cJ cZ cQ q _ 3 (A10 0 4) hI ⟨by decide, by decide⟩ r_A10_0_4) (cwV 2 hts (goodV (wl_in_0 _ (List.mem_of_getElem? (i := 31) rfl)) (wl_in_0 _ (List.mem_of_getElem? (i := 32) rfl)) (wl_in_0 _ (List.mem_of_getElem? (i := 33) rfl)) (wl_in_0 _ (List.mem_of_getElem? (i := 8) rfl)) (wl_in_0 _ (List.mem_of_getElem? (i := 15) rfl))) rfl rfl rfl (by decide +kernel) ⟨Nat.le_of_ble_eq_true rfl, Nat.le_of_ble_eq_true rfl⟩) hK hDD hA0 hP hS 0 12 wm0 rfl rfl hl.1 (Nat.le_of_ble_eq_true rfl) dX12_wanting_143 (fun A48 H locs hw49 hP hS => ?_)
                  obtain ⟨hI, hf50, hw49⟩ := hw49
                  have r_A48_0_8 : (0 : Int) ≤ (A48 0 8) ∧ (A48 0 8) ≤ 5 := hI 0 8
                  exact J146_46 _ _ _ _ (by exact Hd.mk (by  omega)) hI (fr.trans (fr.rf) hf50 rfl rfl) hP hS (lv_sub hl [0, 1, 2, 3, 4] rfl)
            · have c43 : ¬ 6 * (A 0 47) + z15 ≤ z30 := mt (i_le (by omega) (rb f37 (by decide) (by decide))).mpr c43
              refine lv_iload_n hx hb dX12_wanting_102 rfl (lv_at hl 1 rfl) ?_
              refine lv_aload_n hx hb dX12_wanting_103 rfl (lv_at hl 4 rfl) ?_
              refine va_get (D := (dC, dI)) (ci := 12) (v := .ref (q 23)) (C := RX12) (T := TX12) (N := 85) hx hb hts hiX12 hown hK hP 0 wm0 rfl 34 (by decide) (hts _ (List.mem_cons_of_mem _ (wl_in_3 _ (List.mem_of_getElem? (i := 17) rfl)))) (fun _ h9 => h9) rfl dX12_wanting_104 ?_
              refine lv_iload hx hb dX12_wanting_107 (lv_at hl 0 rfl) ?_
              have a_A10_23 : A10 23 = A 23 := (hf12.1 23 (by decide) rfl)
              refine x_iald hx hb hK hP 23 1 wm23 rfl (by omega) (by decide) dX12_wanting_109 (fun z100 hz100 => ?_)
              have rz100 : (0 : Int) ≤ z100 ∧ z100 ≤ 2 := by rw [hz100]; exact hI 23 _
              have hz100 : z100 = A 23 (z30).toNat := hz100.trans (congrFun a_A10_23 _)
              refine lv_iload_n hx hb dX12_wanting_110 rfl (lv_at hl 2 rfl) ?_
              have J119_102 : ∀ (z103 : Int) (H : Heap) (locs : List Loc) (ls : Array Slot), (0 ≤ z103 ∧ z103 ≤ 1) → ((z103 = 0 ∧ ¬ z100 = z26) ∨ (z103 = 1 ∧ z100 = z26)) → va_P (dC, dI) vwCl (WM cI cJ cZ q A10) H → va_S AS s.heap H locs → lv_has ls 5 [(4, .int (iI z30)), (3, .int (iI z31)), (2, .int (iI z26)), (1, .int (iI (6 * (A 0 47) + z15))), (0, .ref (q 0))] → W p l e (headSpec ws_mb_X12_wanting ({ frames := 3, cells := 0, slots := 0, locals := 70 } : Room)).room s m [.ref (q 0)].toArray below meth c H locs 0 0 Q (F0 m 119 ls [.int (iI z103), .int (iI z31)]) := by
                intro z103 H locs ls f105 f106 hP hS hl
                refine x_addv (v := z31 + z103) hx hb dX12_wanting_119 (by omega) ?_
                refine lv_istore_n (lv' := [(3, .int (iI (z31 + z103))), (4, .int (iI z30)), (2, .int (iI z26)), (1, .int (iI (6 * (A 0 47) + z15))), (0, .ref (q 0))]) hx hb dX12_wanting_120 rfl hl (by decide) rfl (fun ls hl => ?_)
                refine lv_iinc (v := iI (z30 + 1)) (lv' := [(4, .int (iI (z30 + 1))), (3, .int (iI (z31 + z103))), (2, .int (iI z26)), (1, .int (iI (6 * (A 0 47) + z15))), (0, .ref (q 0))]) hx hb dX12_wanting_121 hl (k := 1) rfl (i_inc (by omega)) (by decide) rfl (fun ls hl => ?_)
                refine lv_goto (tgt := 96) hx hb dX12_wanting_124 (by decide) ?_
                exact ih34 _ (by omega) (z30 + 1) (z31 + z103) _ _ _ (by omega) (by omega) (by omega) (by omega) (by omega) (by omega) (by exact Hd.mk (ct_stepI (i := z30) (by omega) (by omega) f42.out (by omega))) rfl hP hS (lv_sub hl [0, 1, 2, 3, 4] rfl)
              refine lv_icmp_ne (tgt := 118) hx hb dX12_wanting_111 (by decide) (fun c101 => ?_) (fun c101 => ?_)
              · have c101 : ¬ z100 = z26 := mt (i_eq (rb rz100 (by decide) (by decide)) (rb f28 (by decide) (by decide))).mpr c101
                refine lv_iconst (v := iI 0) hx hb dX12_wanting_118 (by decide +kernel) ?_
                exact J119_102 0 _ _ _ (by omega) (by omega) hP hS (lv_sub hl [0, 1, 2, 3, 4] rfl)
              · have c101 : z100 = z26 := (i_eq (rb rz100 (by decide) (by decide)) (rb f28 (by decide) (by decide))).mp c101
                refine lv_iconst (v := iI 1) hx hb dX12_wanting_114 (by decide +kernel) ?_
                refine lv_goto (tgt := 119) hx hb dX12_wanting_115 (by decide) ?_
                exact J119_102 1 _ _ _ (by omega) (by omega) hP hS (lv_sub hl [0, 1, 2, 3, 4] rfl)
        exact L96_33 _ (6 * (A 0 47)) 0 _ _ _ (by omega) (by omega) (by omega) (by omega) (by omega) (by omega) (by exact Hd.mk (by rw [show 6 * (A 0 47) - 6 * (A 0 47) = 0 by omega]; rfl)) rfl hP hS (lv_sub hl [0, 1, 2, 3, 4] rfl)
      refine lv_if_ne (tgt := 83) hx hb dX12_wanting_49 (by decide) (fun c16 => ?_) (fun c16 => ?_)
      · have c16 : ¬ (A10 0 8) = 0 := mt (i_eq0 (rb r_A10_0_8 (by decide) (by decide))).mpr c16
        refine lv_iconst (v := iI (-1)) hx hb dX12_wanting_83 (by decide +kernel) ?_
        have r_A10_0_3 : (0 : Int) ≤ (A10 0 3) ∧ (A10 0 3) ≤ 3 := hI 0 3
        have r_A10_0_7 : (-9223372036854775808 : Int) ≤ (A10 0 7) ∧ (A10 0 7) ≤ 9223372036854775807 := hI 0 7
        exact J84_17 (-1) _ _ _ (by omega) (by exact Hd.mk (by  omega)) hP hS (lv_sub hl [0, 1] rfl)
      · have c16 : (A10 0 8) = 0 := (i_eq0 (rb r_A10_0_8 (by decide) (by decide))).mp c16
        refine lv_aload_n hx hb dX12_wanting_52 rfl (lv_at hl 1 rfl) ?_
        refine va_get (D := (dC, dI)) (ci := 12) (v := .int (iI (A10 0 3))) (C := RX12) (T := TX12) (N := 85) hx hb hts hiX12 hown hK hP 0 wm0 rfl 3 (by decide) (hts _ (List.mem_cons_of_mem _ (wl_in_0 _ (List.mem_of_getElem? (i := 24) rfl)))) (fun _ h9 => h9) rfl dX12_wanting_53 ?_
        have r_A10_0_3 : (0 : Int) ≤ (A10 0 3) ∧ (A10 0 3) ≤ 3 := hI 0 3
        refine lv_iconst (v := iI 1) hx hb dX12_wanting_56 (by decide +kernel) ?_
        refine lv_icmp_ne (tgt := 83) hx hb dX12_wanting_57 (by decide) (fun c18 => ?_) (fun c18 => ?_)
        · have c18 : ¬ (A10 0 3) = 1 := mt (i_eq (rb r_A10_0_3 (by decide) (by decide)) ⟨by decide, by decide⟩).mpr c18
          refine lv_iconst (v := iI (-1)) hx hb dX12_wanting_83 (by decide +kernel) ?_
          have r_A10_0_7 : (-9223372036854775808 : Int) ≤ (A10 0 7) ∧ (A10 0 7) ≤ 9223372036854775807 := hI 0 7
          exact J84_17 (-1) _ _ _ (by omega) (by exact Hd.mk (by  omega)) hP hS (lv_sub hl [0, 1] rfl)
        · have c18 : (A10 0 3) = 1 := (i_eq (rb r_A10_0_3 (by decide) (by decide)) ⟨by decide, by decide⟩).mp c18
          refine lv_aload_n hx hb dX12_wanting_60 rfl (lv_at hl 1 rfl) ?_
          refine lv_aload_n hx hb dX12_wanting_61 rfl (lv_at hl 1 rfl) ?_
          refine va_get (D := (dC, dI)) (ci := 12) (v := .long (jI (A10 0 7))) (C := RX12) (T := TX12) (N := 85) hx hb hts hiX12 hown hK hP 0 wm0 rfl 7 (by decide) (hts _ (List.mem_cons_of_mem _ (wl_in_0 _ (List.mem_of_getElem? (i := 26) rfl)))) (fun _ h9 => h9) rfl dX12_wanting_62 ?_
          have r_A10_0_7 : (-9223372036854775808 : Int) ≤ (A10 0 7) ∧ (A10 0 7) ≤ 9223372036854775807 := hI 0 7
          refine x_calli (As := [.long (jI (A10 0 7))]) (rest := []) ⟨hx, hb, hml, hown, hts⟩ (mb_X12_isOwn l dC dI cB cI cJ cZ cQ q _ (A10 0 7) hI r_A10_0_7) (cwV 1 hts (goodV (wl_in_2 _ (List.mem_of_getElem? (i := 23) rfl)) (wl_in_2 _ (List.mem_of_getElem? (i := 24) rfl)) (wl_in_2 _ (List.mem_of_getElem? (i := 25) rfl)) (wl_in_0 _ (List.mem_of_getElem? (i := 8) rfl)) (wl_in_0 _ (List.mem_of_getElem? (i := 43) rfl))) rfl rfl rfl (by decide +kernel) ⟨Nat.le_of_ble_eq_true rfl, Nat.le_of_ble_eq_true rfl⟩) hK hDD hA0 hP hS 0 12 wm0 rfl rfl hl.1 (Nat.le_of_ble_eq_true rfl) dX12_wanting_65 (fun z19 A20 H locs hw21 hP hS => ?_)
          obtain ⟨rfl, hw21⟩ := hw21
          have rz19 : 0 ≤ z19 ∧ z19 ≤ 1 := hw21.1
          refine lv_if_ne (tgt := 83) hx hb dX12_wanting_68 (by decide) (fun c22 => ?_) (fun c22 => ?_)
          · have c22 : ¬ z19 = 0 := mt (i_eq0 (rb rz19 (by decide) (by decide))).mpr c22
            refine lv_iconst (v := iI (-1)) hx hb dX12_wanting_83 (by decide +kernel) ?_
            exact J84_17 (-1) _ _ _ (by omega) (by exact Hd.mk (by  omega)) hP hS (lv_sub hl [0, 1] rfl)
          · have c22 : z19 = 0 := (i_eq0 (rb rz19 (by decide) (by decide))).mp c22
            refine lv_aload_n hx hb dX12_wanting_71 rfl (lv_at hl 1 rfl) ?_
            refine lv_iconst (v := iI 3) hx hb dX12_wanting_72 (by decide +kernel) ?_
            refine lv_aload_n hx hb dX12_wanting_73 rfl (lv_at hl 1 rfl) ?_
            refine va_get (D := (dC, dI)) (ci := 12) (v := .long (jI (A10 0 7))) (C := RX12) (T := TX12) (N := 85) hx hb hts hiX12 hown hK hP 0 wm0 rfl 7 (by decide) (hts _ (List.mem_cons_of_mem _ (wl_in_0 _ (List.mem_of_getElem? (i := 26) rfl)))) (fun _ h9 => h9) rfl dX12_wanting_74 ?_
            refine x_calli (As := [.int (iI 3), .long (jI (A10 0 7))]) (rest := []) ⟨hx, hb, hml, hown, hts⟩ (mb_X12_named_3 l dC dI cB cI cJ cZ cQ q _ 3 (A10 0 7) hI ⟨by decide, by decide⟩ r_A10_0_7) (cwV 2 hts (goodV (wl_in_2 _ (List.mem_of_getElem? (i := 26) rfl)) (wl_in_2 _ (List.mem_of_getElem? (i := 27) rfl)) (wl_in_2 _ (List.mem_of_getElem? (i := 28) rfl)) (wl_in_0 _ (List.mem_of_getElem? (i := 8) rfl)) (wl_in_1 _ (List.mem_of_getElem? (i := 10) rfl))) rfl rfl rfl (by decide +kernel) ⟨Nat.le_of_ble_eq_true rfl, Nat.le_of_ble_eq_true rfl⟩) hK hDD hA0 hP hS 0 12 wm0 rfl rfl hl.1 (Nat.le_of_ble_eq_true rfl) dX12_wanting_77 (fun z23 A24 H locs hw25 hP hS => ?_)
            obtain ⟨rfl, hw25⟩ := hw25
            have a_A10_17 : A10 17 = A 17 := (hf12.1 17 (by decide) rfl)
            have a_A10_16 : A10 16 = A 16 := (hf12.1 16 (by decide) rfl)
            rw [a_A10_17, a_A10_16, e_A10_47] at hw25
            refine lv_goto (tgt := 84) hx hb dX12_wanting_80 (by decide) ?_
            exact J84_17 z23 _ _ _ (by omega) (by exact Hd.mk (by  omega)) hP hS (lv_sub hl [0, 1] rfl)
    · have c14 : z9 = 0 := (i_eq0 (rb rz9 (by decide) (by decide))).mp c14
      exact RET _ _ _ _ _ ⟨hI, fr.trans (fr.rf) hf12 rfl rfl, hc13, (WI.fr hcWI hf12 rfl rfl), by omega⟩ hP hS dX12_wanting_26
  refine lv_icmp_ne (tgt := 19) hx hb dX12_wanting_12 (by decide) (fun c2 => ?_) (fun c2 => ?_)
  · have c2 : ¬ z1 = 6 := mt (i_eq (rb rz1 (by decide) (by decide)) ⟨by decide, by decide⟩).mpr c2
    refine lv_iconst (v := iI 0) hx hb dX12_wanting_19 (by decide +kernel) ?_
    exact J20_3 0 _ _ _ (by omega) (by omega) (by exact Hd.mk (by  omega)) hP hS (lv_sub hl [0] rfl)
  · have c2 : z1 = 6 := (i_eq (rb rz1 (by decide) (by decide)) ⟨by decide, by decide⟩).mp c2
    refine lv_iconst (v := iI 1) hx hb dX12_wanting_15 (by decide +kernel) ?_
    refine lv_goto (tgt := 20) hx hb dX12_wanting_16 (by decide) ?_
    exact J20_3 1 _ _ _ (by omega) (by omega) (by exact Hd.mk (by  omega)) hP hS (lv_sub hl [0] rfl)
